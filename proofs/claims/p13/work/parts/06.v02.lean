set_option maxHeartbeats 4000000 in
theorem ok_X0_addBegin {p1 : Int32} {v_count : Int32} {v_begins : Nat → Int32} {Q : Int32 → (Nat → Int32) → Prop} (a0 : 0 ≤ v_count.toInt) (a1 : v_count.toInt ≤ 256) (hq : ∀ (ov_count : Int32) (ov_begins : Nat → Int32), v_count.toInt ≤ ov_count.toInt → ((p1.toInt ≤ 65535 ∧ v_count.toInt ≤ 255 ∧ ov_count.toInt = v_count.toInt + 1) ∨ (ov_count.toInt = v_count.toInt)) → Q ov_count ov_begins) : w_X0_addBegin p1 v_count v_begins Q := by
  have q_t : (bz true).toInt = 1 := rfl
  have q_f : (bz false).toInt = 0 := rfl
  have q_0 : (0 : Int32).toInt = 0 := rfl
  have q_1 : (1 : Int32).toInt = 1 := rfl
  unfold w_X0_addBegin
  have j_2 : ∀ n_2 : Nat, ∀ (l2_2 : Int32), 0 ≤ l2_2.toInt → l2_2.toInt ≤ v_count.toInt → ((-1) * l2_2.toInt + 2147483648).toNat < n_2 → w_X0_addBegin_2 p1 Q v_count v_begins n_2 l2_2 := by
    intro n_2
    induction n_2 with
    | zero =>
      intro l2_2 f1 f2 hm_2
      exfalso; omega
    | succ n_2 ih_2 =>
      intro l2_2 f1 f2 hm_2
      unfold w_X0_addBegin_2
      unfold w_X0_addBegin_2B
      have j_26 : ((v_count.toInt ≤ l2_2.toInt) ∨ (l2_2.toInt + 1 ≤ v_count.toInt)) → w_X0_addBegin_26 p1 Q l2_2 v_count v_begins := by
        intro f3
        unfold w_X0_addBegin_26
        have j_49 : ∀ (s0_49 : Int32), ((s0_49.toInt = 1 ∧ l2_2.toInt + 1 ≤ v_count.toInt) ∨ (s0_49.toInt = 0)) → w_X0_addBegin_49 p1 Q s0_49 l2_2 v_count v_begins := by
          intro s0_49 f4
          unfold w_X0_addBegin_49
          have j_70 : w_X0_addBegin_70 Q v_count v_begins := by
            unfold w_X0_addBegin_70
            exact hq v_count v_begins (by omega) (by omega)
          refine ⟨fun c51 => ?_, fun c51 => ?_⟩
          · have f5 : s0_49.toInt ≠ 0 := i_ne (a := s0_49.toInt) (b := 0) rfl rfl c51
            exact j_70  
          · have f6 : s0_49.toInt = 0 := i_eq (a := s0_49.toInt) (b := 0) rfl rfl c51
            refine ⟨fun c57 => ?_, fun c57 => ?_⟩
            · have f7 : 65535 < p1.toInt := i_lt (a := 65535) (b := p1.toInt) rfl rfl c57
              exact j_70  
            · have f8 : p1.toInt ≤ 65535 := i_nlt (a := 65535) (b := p1.toInt) rfl rfl c57
              refine ⟨fun c67 => ?_, fun c67 => ?_⟩
              · have f9 : v_count.toInt < 256 := i_lt (a := v_count.toInt) (b := 256) rfl rfl c67
                have j_77 : ∀ n_77 : Nat, ∀ (l4_77 : Int32) (v_begins_77 : Nat → Int32), l2_2.toInt ≤ l4_77.toInt → l4_77.toInt ≤ v_count.toInt → (l4_77.toInt + 2147483649).toNat < n_77 → w_X0_addBegin_77 p1 Q l2_2 v_count n_77 l4_77 v_begins_77 := by
                  intro n_77
                  induction n_77 with
                  | zero =>
                    intro l4_77 v_begins_77 f10 f11 hm_77
                    exfalso; omega
                  | succ n_77 ih_77 =>
                    intro l4_77 v_begins_77 f10 f11 hm_77
                    unfold w_X0_addBegin_77
                    unfold w_X0_addBegin_77B
                    refine ⟨fun c80 => ?_, fun c80 => ?_⟩
                    · have f12 : l4_77.toInt ≤ l2_2.toInt := i_le (a := l4_77.toInt) (b := l2_2.toInt) rfl rfl c80
                      refine ⟨i_in (by omega) (by omega), ?_⟩
                      intro g111 eg111
                      intro x118 ex118
                      have f13 : x118.toInt = v_count.toInt + 1 := i_add (a := v_count.toInt) (b := 1) ex118 rfl rfl (by omega) (by omega)
                      exact hq x118 g111 (by omega) (by omega)
                    · have f14 : l2_2.toInt < l4_77.toInt := i_nle (a := l4_77.toInt) (b := l2_2.toInt) rfl rfl c80
                      intro x96 ex96
                      have f15 : x96.toInt = l4_77.toInt - 1 := i_sub (a := l4_77.toInt) (b := 1) ex96 rfl rfl (by omega) (by omega)
                      refine ⟨i_in (by omega) (by omega), ?_⟩
                      intro x97 ex97
                      refine ⟨i_in (by omega) (by omega), ?_⟩
                      intro g98 eg98
                      intro x99 ex99
                      have f16 : x99.toInt = l4_77.toInt + (-1) := i_add (a := l4_77.toInt) (b := (-1)) ex99 rfl rfl (by omega) (by omega)
                      exact ih_77 x99 g98 (by omega) (by omega) (by have h8_0 := i_rng l4_77; have h8_1 := i_rng x99; omega)
                exact ⟨(v_count.toInt + 2147483649).toNat + 1, j_77   ((v_count.toInt + 2147483649).toNat + 1) v_count v_begins (by omega) (by omega) (by omega)⟩
              · have f17 : 256 ≤ v_count.toInt := i_nlt (a := v_count.toInt) (b := 256) rfl rfl c67
                exact j_70  
        have j_48 : ((v_count.toInt ≤ l2_2.toInt) ∨ (l2_2.toInt + 1 ≤ v_count.toInt)) → w_X0_addBegin_48 p1 Q l2_2 v_count v_begins := by
          intro f18
          unfold w_X0_addBegin_48
          exact j_49 0 (by omega)
        refine ⟨fun c31 => ?_, fun c31 => ?_⟩
        · have f19 : v_count.toInt ≤ l2_2.toInt := i_le (a := v_count.toInt) (b := l2_2.toInt) rfl rfl c31
          exact j_48  (by omega)
        · have f20 : l2_2.toInt < v_count.toInt := i_nle (a := v_count.toInt) (b := l2_2.toInt) rfl rfl c31
          refine ⟨i_in (by omega) (by omega), ?_⟩
          intro x39 ex39
          refine ⟨fun c41 => ?_, fun c41 => ?_⟩
          · have f21 : x39.toInt ≠ p1.toInt := i_ne (a := x39.toInt) (b := p1.toInt) rfl rfl c41
            exact j_48  (by omega)
          · have f22 : x39.toInt = p1.toInt := i_eq (a := x39.toInt) (b := p1.toInt) rfl rfl c41
            exact j_49 1 (by omega)
      refine ⟨fun c7 => ?_, fun c7 => ?_⟩
      · have f23 : v_count.toInt ≤ l2_2.toInt := i_le (a := v_count.toInt) (b := l2_2.toInt) rfl rfl c7
        exact j_26  (by omega)
      · have f24 : l2_2.toInt < v_count.toInt := i_nle (a := v_count.toInt) (b := l2_2.toInt) rfl rfl c7
        refine ⟨i_in (by omega) (by omega), ?_⟩
        intro x15 ex15
        refine ⟨fun c17 => ?_, fun c17 => ?_⟩
        · have f25 : p1.toInt ≤ x15.toInt := i_le (a := p1.toInt) (b := x15.toInt) rfl rfl c17
          exact j_26  (by omega)
        · have f26 : x15.toInt < p1.toInt := i_nle (a := p1.toInt) (b := x15.toInt) rfl rfl c17
          intro x20 ex20
          have f27 : x20.toInt = l2_2.toInt + 1 := i_add (a := l2_2.toInt) (b := 1) ex20 rfl rfl (by omega) (by omega)
          exact ih_2 x20 (by omega) (by omega) (by have h8_0 := i_rng l2_2; have h8_1 := i_rng x20; omega)
  exact ⟨(2147483648 : Int).toNat + 1, j_2   ((2147483648 : Int).toNat + 1) 0 (by omega) (by omega) (by omega)⟩
set_option maxHeartbeats 4000000 in
theorem ok_X0_addRange {p1 : Int32} {p2 : Int32} {p3 : Int32} {v_count : Int32} {v_begins : Nat → Int32} {Q : Int32 → (Nat → Int32) → Prop} (a0 : 0 ≤ v_count.toInt) (a1 : v_count.toInt ≤ 256) (a2 : 0 ≤ p3.toInt) (a3 : p3.toInt ≤ 1) (hq : ∀ (ov_count : Int32) (ov_begins : Nat → Int32), 0 ≤ ov_count.toInt → ov_count.toInt ≤ 256 → v_count.toInt ≤ ov_count.toInt → Q ov_count ov_begins) : w_X0_addRange p1 p2 p3 v_count v_begins Q := by
  have q_t : (bz true).toInt = 1 := rfl
  have q_f : (bz false).toInt = 0 := rfl
  unfold w_X0_addRange
  refine ok_X0_addBegin (by omega) (by omega) (fun r2_0 r2_1 f1 f2 => ?_)
  intro x8 ex8
  refine ok_X0_addBegin (by omega) (by omega) (fun r9_0 r9_1 f3 f4 => ?_)
  have j_54 : ∀ (v_count_54 : Int32) (v_begins_54 : Nat → Int32), 0 ≤ v_count_54.toInt → v_count_54.toInt ≤ 256 → v_count.toInt ≤ v_count_54.toInt → w_X0_addRange_54 p1 p2 p3 Q v_count_54 v_begins_54 := by
    intro v_count_54 v_begins_54 f5 f6 f7
    unfold w_X0_addRange_54
    have j_96 : ∀ (v_count_96 : Int32) (v_begins_96 : Nat → Int32), 0 ≤ v_count_96.toInt → v_count_96.toInt ≤ 256 → v_count.toInt ≤ v_count_96.toInt → w_X0_addRange_96 Q v_count_96 v_begins_96 := by
      intro v_count_96 v_begins_96 f8 f9 f10
      unfold w_X0_addRange_96
      exact hq v_count_96 v_begins_96 (by omega) (by omega) (by omega)
    refine ⟨fun c55 => ?_, fun c55 => ?_⟩
    · have f11 : p3.toInt = 0 := i_eq (a := p3.toInt) (b := 0) rfl rfl c55
      exact j_96 v_count_54 v_begins_54 (by omega) (by omega) (by omega)
    · have f12 : p3.toInt ≠ 0 := i_ne (a := p3.toInt) (b := 0) rfl rfl c55
      refine ⟨fun c61 => ?_, fun c61 => ?_⟩
      · have f13 : 122 < p1.toInt := i_lt (a := 122) (b := p1.toInt) rfl rfl c61
        exact j_96 v_count_54 v_begins_54 (by omega) (by omega) (by omega)
      · have f14 : p1.toInt ≤ 122 := i_nlt (a := 122) (b := p1.toInt) rfl rfl c61
        refine ⟨fun c67 => ?_, fun c67 => ?_⟩
        · have f15 : p2.toInt < 97 := i_lt (a := p2.toInt) (b := 97) rfl rfl c67
          exact j_96 v_count_54 v_begins_54 (by omega) (by omega) (by omega)
        · have f16 : 97 ≤ p2.toInt := i_nlt (a := p2.toInt) (b := 97) rfl rfl c67
          intro x74 ex74
          have f17 : ((x74.toInt = p1.toInt ∧ 97 ≤ p1.toInt) ∨ (x74.toInt = 97 ∧ p1.toInt ≤ 97)) := by have h9 := i_max (a := p1.toInt) (b := 97) ex74 rfl rfl; omega
          intro x79 ex79
          have f18 : x79.toInt = x74.toInt - 32 := i_sub (a := x74.toInt) (b := 32) ex79 rfl rfl (by omega) (by omega)
          refine ok_X0_addBegin (by omega) (by omega) (fun r80_0 r80_1 f19 f20 => ?_)
          intro x87 ex87
          have f21 : ((x87.toInt = p2.toInt ∧ p2.toInt ≤ 122) ∨ (x87.toInt = 122 ∧ 122 ≤ p2.toInt)) := by have h9 := i_min (a := 122) (b := p2.toInt) ex87 rfl rfl; omega
          intro x92 ex92
          have f22 : x92.toInt = x87.toInt - 31 := i_sub (a := x87.toInt) (b := 31) ex92 rfl rfl (by omega) (by omega)
          refine ok_X0_addBegin (by omega) (by omega) (fun r93_0 r93_1 f23 f24 => ?_)
          exact j_96 r93_0 r93_1 (by omega) (by omega) (by omega)
  refine ⟨fun c13 => ?_, fun c13 => ?_⟩
  · have f25 : p3.toInt = 0 := i_eq (a := p3.toInt) (b := 0) rfl rfl c13
    exact j_54 r9_0 r9_1 (by omega) (by omega) (by omega)
  · have f26 : p3.toInt ≠ 0 := i_ne (a := p3.toInt) (b := 0) rfl rfl c13
    refine ⟨fun c19 => ?_, fun c19 => ?_⟩
    · have f27 : 90 < p1.toInt := i_lt (a := 90) (b := p1.toInt) rfl rfl c19
      exact j_54 r9_0 r9_1 (by omega) (by omega) (by omega)
    · have f28 : p1.toInt ≤ 90 := i_nlt (a := 90) (b := p1.toInt) rfl rfl c19
      refine ⟨fun c25 => ?_, fun c25 => ?_⟩
      · have f29 : p2.toInt < 65 := i_lt (a := p2.toInt) (b := 65) rfl rfl c25
        exact j_54 r9_0 r9_1 (by omega) (by omega) (by omega)
      · have f30 : 65 ≤ p2.toInt := i_nlt (a := p2.toInt) (b := 65) rfl rfl c25
        intro x32 ex32
        have f31 : ((x32.toInt = p1.toInt ∧ 65 ≤ p1.toInt) ∨ (x32.toInt = 65 ∧ p1.toInt ≤ 65)) := by have h9 := i_max (a := p1.toInt) (b := 65) ex32 rfl rfl; omega
        intro x37 ex37
        have f32 : x37.toInt = x32.toInt + 32 := i_add (a := x32.toInt) (b := 32) ex37 rfl rfl (by omega) (by omega)
        refine ok_X0_addBegin (by omega) (by omega) (fun r38_0 r38_1 f33 f34 => ?_)
        intro x45 ex45
        have f35 : ((x45.toInt = p2.toInt ∧ p2.toInt ≤ 90) ∨ (x45.toInt = 90 ∧ 90 ≤ p2.toInt)) := by have h9 := i_min (a := 90) (b := p2.toInt) ex45 rfl rfl; omega
        intro x50 ex50
        have f36 : x50.toInt = x45.toInt + 33 := i_add (a := x45.toInt) (b := 33) ex50 rfl rfl (by omega) (by omega)
        refine ok_X0_addBegin (by omega) (by omega) (fun r51_0 r51_1 f37 f38 => ?_)
        exact j_54 r51_0 r51_1 (by omega) (by omega) (by omega)
set_option maxHeartbeats 4000000 in
theorem ok_X0_addParts {p2 : Int32} {v_count : Int32} {v_begins : Nat → Int32} {a1_count : Int32} {a1_ranges : Int32} {a1_sort : Nat → Int32} {a1_parts : Nat → Int32} {a1_low : Nat → Int32} {a1_high : Nat → Int32} {a1_withinCase : Nat → Bool} {a1_rangeBegin : Nat → Int32} {a1_rangeEnd : Nat → Int32} {Q : Int32 → (Nat → Int32) → Prop} (a0 : 0 ≤ v_count.toInt) (a1 : v_count.toInt ≤ 256) (a2 : 0 ≤ a1_count.toInt) (a3 : a1_count.toInt ≤ 256) (a4 : 0 ≤ a1_ranges.toInt) (a5 : a1_ranges.toInt ≤ 512) (hq : ∀ (ov_count : Int32) (ov_begins : Nat → Int32), 0 ≤ ov_count.toInt + 1 → 0 ≤ ov_count.toInt → ov_count.toInt ≤ 256 → v_count.toInt ≤ ov_count.toInt → Q ov_count ov_begins) : w_X0_addParts p2 v_count v_begins a1_count a1_ranges a1_sort a1_parts a1_low a1_high a1_withinCase a1_rangeBegin a1_rangeEnd Q := by
  have q_t : (bz true).toInt = 1 := rfl
  have q_f : (bz false).toInt = 0 := rfl
  have q_0 : (0 : Int32).toInt = 0 := rfl
  unfold w_X0_addParts
  have j_2 : ∀ n_2 : Nat, ∀ (l3_2 : Int32) (v_count_2 : Int32) (v_begins_2 : Nat → Int32), 0 ≤ l3_2.toInt → v_count.toInt ≤ v_count_2.toInt → v_count_2.toInt ≤ 256 → ((-1) * l3_2.toInt + 2147483648).toNat < n_2 → w_X0_addParts_2 p2 a1_count a1_ranges a1_sort a1_parts a1_low a1_high a1_withinCase a1_rangeBegin a1_rangeEnd Q n_2 l3_2 v_count_2 v_begins_2 := by
    intro n_2
    induction n_2 with
    | zero =>
      intro l3_2 v_count_2 v_begins_2 f1 f2 f3 hm_2
      exfalso; omega
    | succ n_2 ih_2 =>
      intro l3_2 v_count_2 v_begins_2 f1 f2 f3 hm_2
      unfold w_X0_addParts_2
      unfold w_X0_addParts_2B
      refine ok_X10_partsOf (by omega) (by omega) (fun r5 f4 => ?_)
      refine ⟨fun c8 => ?_, fun c8 => ?_⟩
      · have f5 : r5.toInt ≤ l3_2.toInt := i_le (a := r5.toInt) (b := l3_2.toInt) rfl rfl c8
        exact hq v_count_2 v_begins_2 (by omega) (by omega) (by omega) (by omega)
      · have f6 : l3_2.toInt < r5.toInt := i_nle (a := r5.toInt) (b := l3_2.toInt) rfl rfl c8
        refine ok_X10_partBegin (by omega) (by omega) (by omega) (by omega) (fun r15 => ?_)
        refine ok_X10_partEnd (by omega) (by omega) (by omega) (by omega) (fun r21 => ?_)
        refine ok_X10_isWithinCase (by omega) (by omega) (fun r26 f7 => ?_)
        refine ok_X0_addRange (by omega) (by omega) (by omega) (by omega) (fun r29_0 r29_1 f8 f9 f10 => ?_)
        intro x32 ex32
        have f11 : x32.toInt = l3_2.toInt + 1 := i_add (a := l3_2.toInt) (b := 1) ex32 rfl rfl (by omega) (by have h8_0 := i_rng a1_count; have h8_1 := i_rng l3_2; have h8_2 := i_rng p2; have h8_3 := i_rng r26; have h8_4 := i_rng r5; omega)
        exact ih_2 x32 r29_0 r29_1 (by omega) (by omega) (by omega) (by have h8_0 := i_rng l3_2; have h8_1 := i_rng x32; omega)
  exact ⟨(2147483648 : Int).toNat + 1, j_2   ((2147483648 : Int).toNat + 1) 0 v_count v_begins (by omega) (by omega) (by omega) (by omega)⟩
set_option maxHeartbeats 4000000 in
theorem ok_X0_addTree {v_count : Int32} {v_begins : Nat → Int32} {a1_count : Int32} {a1_ranges : Int32} {a1_sort : Nat → Int32} {a1_parts : Nat → Int32} {a1_value : Nat → Int32} {a1_low : Nat → Int32} {a1_high : Nat → Int32} {a1_withinCase : Nat → Bool} {a1_rangeBegin : Nat → Int32} {a1_rangeEnd : Nat → Int32} {Q : Int32 → (Nat → Int32) → Prop} (a0 : 0 ≤ v_count.toInt) (a1 : v_count.toInt ≤ 256) (a2 : 0 ≤ a1_count.toInt) (a3 : a1_count.toInt ≤ 256) (a4 : 0 ≤ a1_ranges.toInt) (a5 : a1_ranges.toInt ≤ 512) (hq : ∀ (ov_count : Int32) (ov_begins : Nat → Int32), 0 ≤ ov_count.toInt + 1 → 0 ≤ ov_count.toInt → ov_count.toInt ≤ 256 → v_count.toInt ≤ ov_count.toInt → Q ov_count ov_begins) : w_X0_addTree v_count v_begins a1_count a1_ranges a1_sort a1_parts a1_value a1_low a1_high a1_withinCase a1_rangeBegin a1_rangeEnd Q := by
  have q_t : (bz true).toInt = 1 := rfl
  have q_f : (bz false).toInt = 0 := rfl
  have q_0 : (0 : Int32).toInt = 0 := rfl
  have q_10 : (10 : Int32).toInt = 10 := rfl
  unfold w_X0_addTree
  have j_2 : ∀ n_2 : Nat, ∀ (l2_2 : Int32) (v_count_2 : Int32) (v_begins_2 : Nat → Int32), 0 ≤ l2_2.toInt → l2_2.toInt ≤ a1_count.toInt → v_count.toInt ≤ v_count_2.toInt → v_count_2.toInt ≤ 256 → ((-1) * l2_2.toInt + 2147483648).toNat < n_2 → w_X0_addTree_2 a1_count a1_ranges a1_sort a1_parts a1_value a1_low a1_high a1_withinCase a1_rangeBegin a1_rangeEnd Q n_2 l2_2 v_count_2 v_begins_2 := by
    intro n_2
    induction n_2 with
    | zero =>
      intro l2_2 v_count_2 v_begins_2 f1 f2 f3 f4 hm_2
      exfalso; omega
    | succ n_2 ih_2 =>
      intro l2_2 v_count_2 v_begins_2 f1 f2 f3 f4 hm_2
      unfold w_X0_addTree_2
      unfold w_X0_addTree_2B
      refine ok_X10_has (by omega) (by omega) (fun r4 f5 => ?_)
      refine ⟨fun c7 => ?_, fun c7 => ?_⟩
      · have f6 : r4.toInt = 0 := i_eq (a := r4.toInt) (b := 0) rfl rfl c7
        exact hq v_count_2 v_begins_2 (by omega) (by omega) (by omega) (by omega)
      · have f7 : r4.toInt ≠ 0 := i_ne (a := r4.toInt) (b := 0) rfl rfl c7
        refine ok_X10_sortOf (by omega) (by omega) (fun r12 f8 => ?_)
        have j_83 : ∀ (v_count_83 : Int32) (v_begins_83 : Nat → Int32), 0 ≤ v_count_83.toInt → v_count_83.toInt ≤ 256 → v_count.toInt ≤ v_count_83.toInt → v_count_2.toInt ≤ v_count_83.toInt → w_X0_addTree_83 Q (w_X0_addTree_2 a1_count a1_ranges a1_sort a1_parts a1_value a1_low a1_high a1_withinCase a1_rangeBegin a1_rangeEnd Q n_2) l2_2 v_count_83 v_begins_83 := by
          intro v_count_83 v_begins_83 f9 f10 f11 f12
          unfold w_X0_addTree_83
          intro x83 ex83
          have f13 : x83.toInt = l2_2.toInt + 1 := i_add (a := l2_2.toInt) (b := 1) ex83 rfl rfl (by omega) (by omega)
          exact ih_2 x83 v_count_83 v_begins_83 (by omega) (by omega) (by omega) (by omega) (by have h8_0 := i_rng l2_2; have h8_1 := i_rng x83; omega)
        refine ⟨fun c15_0 => ?_, fun c15_1 => ?_, fun c15_2 => ?_, ?_⟩
        · have f14 : r12.toInt = 0 := i_eq (a := r12.toInt) (b := 0) rfl rfl c15_0
          refine ok_X10_valueOf (by omega) (by omega) (fun r43 f15 => ?_)
          refine ok_X10_valueOf (by omega) (by omega) (fun r48 f16 => ?_)
          refine ok_X10_isWithinCase (by omega) (by omega) (fun r53 f17 => ?_)
          refine ok_X0_addRange (by omega) (by omega) (by omega) (by omega) (fun r56_0 r56_1 f18 f19 f20 => ?_)
          exact j_83 r56_0 r56_1 (by omega) (by omega) (by omega) (by omega)
        · have f21 : r12.toInt = 1 := i_eq (a := r12.toInt) (b := 1) rfl rfl c15_1
          refine ok_X0_addRange (by omega) (by omega) (by omega) (by omega) (fun r68_0 r68_1 f22 f23 f24 => ?_)
          exact j_83 r68_0 r68_1 (by omega) (by omega) (by omega) (by omega)
        · have f25 : r12.toInt = 2 := i_eq (a := r12.toInt) (b := 2) rfl rfl c15_2
          refine ok_X0_addParts (by omega) (by omega) (by omega) (by omega) (by omega) (by omega) (fun r77_0 r77_1 f26 f27 f28 f29 => ?_)
          exact j_83 r77_0 r77_1 (by omega) (by omega) (by omega) (by omega)
        · intro c15_0 c15_1 c15_2
          have f30 : r12.toInt ≠ 0 := i_ne (a := r12.toInt) (b := 0) rfl rfl c15_0
          have f31 : r12.toInt ≠ 1 := i_ne (a := r12.toInt) (b := 1) rfl rfl c15_1
          have f32 : r12.toInt ≠ 2 := i_ne (a := r12.toInt) (b := 2) rfl rfl c15_2
          exact j_83 v_count_2 v_begins_2 (by omega) (by omega) (by omega) (by omega)
  exact ⟨(2147483648 : Int).toNat + 1, j_2   ((2147483648 : Int).toNat + 1) 0 v_count v_begins (by omega) (by omega) (by omega) (by omega) (by omega)⟩
set_option maxHeartbeats 4000000 in
theorem ok_X0_gather {v_begins : Nat → Int32} {a1_count : Int32} {a1_ranges : Int32} {a1_sort : Nat → Int32} {a1_parts : Nat → Int32} {a1_value : Nat → Int32} {a1_low : Nat → Int32} {a1_high : Nat → Int32} {a1_withinCase : Nat → Bool} {a1_rangeBegin : Nat → Int32} {a1_rangeEnd : Nat → Int32} {Q : Int32 → (Nat → Int32) → Prop} (a0 : 0 ≤ a1_count.toInt) (a1 : a1_count.toInt ≤ 256) (a2 : 0 ≤ a1_ranges.toInt) (a3 : a1_ranges.toInt ≤ 512) (hq : ∀ (ov_count : Int32) (ov_begins : Nat → Int32), 0 ≤ ov_count.toInt + 1 → 0 ≤ ov_count.toInt → ov_count.toInt ≤ 256 → 1 ≤ ov_count.toInt → Q ov_count ov_begins) : w_X0_gather v_begins a1_count a1_ranges a1_sort a1_parts a1_value a1_low a1_high a1_withinCase a1_rangeBegin a1_rangeEnd Q := by
  have q_t : (bz true).toInt = 1 := rfl
  have q_f : (bz false).toInt = 0 := rfl
  have q_1 : (1 : Int32).toInt = 1 := rfl
  unfold w_X0_gather
  intro g11 eg11
  refine ok_X0_addTree (by omega) (by omega) (by omega) (by omega) (by omega) (by omega) (fun r14_0 r14_1 f1 f2 f3 f4 => ?_)
  refine ok_X0_addTree (by omega) (by omega) (by omega) (by omega) (by omega) (by omega) (fun r23_0 r23_1 f5 f6 f7 f8 => ?_)
  exact hq r23_0 r23_1 (by omega) (by omega) (by omega) (by omega)
set_option maxHeartbeats 4000000 in
theorem ok_X0_classOf {p1 : Int32} {v_count : Int32} {v_begins : Nat → Int32} {Q : Int32 → Prop} (a0 : 0 ≤ v_count.toInt) (a1 : v_count.toInt ≤ 256) (hq : ∀ (r : Int32), 0 ≤ r.toInt + 1 → 0 ≤ r.toInt → r.toInt ≤ v_count.toInt → r.toInt ≤ v_count.toInt + 1 → 0 ≤ r.toInt + 2 → ((v_count.toInt ≤ r.toInt + 1) ∨ (r.toInt + 2 ≤ v_count.toInt)) → Q r) : w_X0_classOf p1 v_count v_begins Q := by
  have q_t : (bz true).toInt = 1 := rfl
  have q_f : (bz false).toInt = 0 := rfl
  have q_0 : (0 : Int32).toInt = 0 := rfl
  have q_1 : (1 : Int32).toInt = 1 := rfl
  unfold w_X0_classOf
  have j_4 : ∀ n_4 : Nat, ∀ (l2_4 : Int32) (l3_4 : Int32), 1 ≤ l3_4.toInt → l3_4.toInt ≤ v_count.toInt + 1 → l3_4.toInt = l2_4.toInt + 1 → ((-1) * l2_4.toInt + 2147483648).toNat < n_4 → w_X0_classOf_4 p1 v_count v_begins Q n_4 l2_4 l3_4 := by
    intro n_4
    induction n_4 with
    | zero =>
      intro l2_4 l3_4 f1 f2 f3 hm_4
      exfalso; omega
    | succ n_4 ih_4 =>
      intro l2_4 l3_4 f1 f2 f3 hm_4
      unfold w_X0_classOf_4
      unfold w_X0_classOf_4B
      have j_30 : ((v_count.toInt ≤ l3_4.toInt) ∨ (l3_4.toInt + 1 ≤ v_count.toInt)) → w_X0_classOf_30 Q l2_4 := by
        intro f4
        unfold w_X0_classOf_30
        exact hq l2_4 (by omega) (by omega) (by omega) (by omega) (by omega) (by omega)
      refine ⟨fun c9 => ?_, fun c9 => ?_⟩
      · have f5 : v_count.toInt ≤ l3_4.toInt := i_le (a := v_count.toInt) (b := l3_4.toInt) rfl rfl c9
        exact j_30  (by omega)
      · have f6 : l3_4.toInt < v_count.toInt := i_nle (a := v_count.toInt) (b := l3_4.toInt) rfl rfl c9
        refine ⟨i_in (by omega) (by omega), ?_⟩
        intro x17 ex17
        refine ⟨fun c19 => ?_, fun c19 => ?_⟩
        · have f7 : p1.toInt < x17.toInt := i_lt (a := p1.toInt) (b := x17.toInt) rfl rfl c19
          exact j_30  (by omega)
        · have f8 : x17.toInt ≤ p1.toInt := i_nlt (a := p1.toInt) (b := x17.toInt) rfl rfl c19
          intro x24 ex24
          have f9 : x24.toInt = l3_4.toInt + 1 := i_add (a := l3_4.toInt) (b := 1) ex24 rfl rfl (by omega) (by omega)
          exact ih_4 l3_4 x24 (by omega) (by omega) (by omega) (by have h8_0 := i_rng l2_4; have h8_1 := i_rng l3_4; omega)
  exact ⟨(2147483648 : Int).toNat + 1, j_4   ((2147483648 : Int).toNat + 1) 0 1 (by omega) (by omega) (by omega) (by omega)⟩
set_option maxHeartbeats 4000000 in
theorem ok_X5_subjectOf {p1 : Int32} {v_count : Int32} {v_subjects : Nat → Int32} {Q : Int32 → Prop} (a0 : 0 ≤ v_count.toInt) (a1 : v_count.toInt ≤ 512) (hq : ∀ (r : Int32), ((0 ≤ p1.toInt ∧ p1.toInt + 1 ≤ v_count.toInt) ∨ (r.toInt + 1 = 0)) → Q r) : w_X5_subjectOf p1 v_count v_subjects Q := by
  have q_t : (bz true).toInt = 1 := rfl
  have q_f : (bz false).toInt = 0 := rfl
  have q_m1 : ((-1) : Int32).toInt = (-1) := rfl
  unfold w_X5_subjectOf
  have j_22 : ∀ (s0_22 : Int32), ((0 ≤ p1.toInt ∧ p1.toInt + 1 ≤ v_count.toInt) ∨ (s0_22.toInt + 1 = 0)) → w_X5_subjectOf_22 Q s0_22 := by
    intro s0_22 f1
    unfold w_X5_subjectOf_22
    exact hq s0_22 (by omega)
  have j_21 : ((p1.toInt + 1 ≤ 0) ∨ (0 ≤ p1.toInt ∧ v_count.toInt ≤ p1.toInt)) → w_X5_subjectOf_21 Q := by
    intro f2
    unfold w_X5_subjectOf_21
    exact j_22 (-1) (by omega)
  refine ⟨fun c1 => ?_, fun c1 => ?_⟩
  · have f3 : p1.toInt < 0 := i_lt (a := p1.toInt) (b := 0) rfl rfl c1
    exact j_21  (by omega)
  · have f4 : 0 ≤ p1.toInt := i_nlt (a := p1.toInt) (b := 0) rfl rfl c1
    refine ⟨fun c9 => ?_, fun c9 => ?_⟩
    · have f5 : v_count.toInt ≤ p1.toInt := i_le (a := v_count.toInt) (b := p1.toInt) rfl rfl c9
      exact j_21  (by omega)
    · have f6 : p1.toInt < v_count.toInt := i_nle (a := v_count.toInt) (b := p1.toInt) rfl rfl c9
      refine ⟨i_in (by omega) (by omega), ?_⟩
      intro x17 ex17
      exact j_22 x17 (by omega)
set_option maxHeartbeats 4000000 in
theorem ok_X5_takes {p1 : Int32} {p2 : Int32} {v_count : Int32} {v_subjects : Nat → Int32} {v_tree_count : Int32} {v_tree_ranges : Int32} {v_tree_sort : Nat → Int32} {v_tree_value : Nat → Int32} {v_tree_low : Nat → Int32} {v_tree_high : Nat → Int32} {v_tree_withinCase : Nat → Bool} {v_tree_rangeBegin : Nat → Int32} {v_tree_rangeEnd : Nat → Int32} {Q : Int32 → Prop} (a0 : 0 ≤ v_count.toInt) (a1 : v_count.toInt ≤ 512) (a2 : 0 ≤ v_tree_count.toInt) (a3 : v_tree_count.toInt ≤ 256) (a4 : 0 ≤ v_tree_ranges.toInt) (a5 : v_tree_ranges.toInt ≤ 512) (hq : ∀ (r : Int32), 0 ≤ r.toInt → r.toInt ≤ 1 → Q r) : w_X5_takes p1 p2 v_count v_subjects v_tree_count v_tree_ranges v_tree_sort v_tree_value v_tree_low v_tree_high v_tree_withinCase v_tree_rangeBegin v_tree_rangeEnd Q := by
  have q_t : (bz true).toInt = 1 := rfl
  have q_f : (bz false).toInt = 0 := rfl
  unfold w_X5_takes
  refine ok_X5_subjectOf (by omega) (by omega) (fun r6 f1 => ?_)
  refine ok_X10_takes (by omega) (by omega) (by omega) (by omega) (fun r10 f2 f3 => ?_)
  refine ⟨i_01 (by omega) (by omega), ?_⟩
  exact hq r10 (by omega) (by omega)
set_option maxHeartbeats 4000000 in
theorem ok_X5_has {p1 : Int32} {v_count : Int32} {Q : Int32 → Prop} (a0 : 0 ≤ v_count.toInt) (a1 : v_count.toInt ≤ 512) (hq : ∀ (r : Int32), ((r.toInt = 1 ∧ 0 ≤ p1.toInt ∧ p1.toInt + 1 ≤ v_count.toInt) ∨ (r.toInt = 0)) → Q r) : w_X5_has p1 v_count Q := by
  have q_t : (bz true).toInt = 1 := rfl
  have q_f : (bz false).toInt = 0 := rfl
  have q_0 : (0 : Int32).toInt = 0 := rfl
  have q_1 : (1 : Int32).toInt = 1 := rfl
  unfold w_X5_has
  have j_17 : ∀ (s0_17 : Int32), ((s0_17.toInt = 1 ∧ 0 ≤ p1.toInt ∧ p1.toInt + 1 ≤ v_count.toInt) ∨ (s0_17.toInt = 0)) → w_X5_has_17 Q s0_17 := by
    intro s0_17 f1
    unfold w_X5_has_17
    refine ⟨i_01 (by omega) (by omega), ?_⟩
    exact hq s0_17 (by omega)
  have j_16 : ((p1.toInt + 1 ≤ 0) ∨ (0 ≤ p1.toInt ∧ v_count.toInt ≤ p1.toInt)) → w_X5_has_16 Q := by
    intro f2
    unfold w_X5_has_16
    exact j_17 0 (by omega)
  refine ⟨fun c1 => ?_, fun c1 => ?_⟩
  · have f3 : p1.toInt < 0 := i_lt (a := p1.toInt) (b := 0) rfl rfl c1
    exact j_16  (by omega)
  · have f4 : 0 ≤ p1.toInt := i_nlt (a := p1.toInt) (b := 0) rfl rfl c1
    refine ⟨fun c9 => ?_, fun c9 => ?_⟩
    · have f5 : v_count.toInt ≤ p1.toInt := i_le (a := v_count.toInt) (b := p1.toInt) rfl rfl c9
      exact j_16  (by omega)
    · have f6 : p1.toInt < v_count.toInt := i_nle (a := v_count.toInt) (b := p1.toInt) rfl rfl c9
      exact j_17 1 (by omega)
set_option maxHeartbeats 4000000 in
theorem ok_X5_kindOf {p1 : Int32} {v_count : Int32} {v_kinds : Nat → Int32} {Q : Int32 → Prop} (a0 : 0 ≤ v_count.toInt) (a1 : v_count.toInt ≤ 512) (hq : ∀ (r : Int32), ((0 ≤ p1.toInt ∧ p1.toInt + 1 ≤ v_count.toInt) ∨ (r.toInt = 6)) → Q r) : w_X5_kindOf p1 v_count v_kinds Q := by
  have q_t : (bz true).toInt = 1 := rfl
  have q_f : (bz false).toInt = 0 := rfl
  have q_6 : (6 : Int32).toInt = 6 := rfl
  unfold w_X5_kindOf
  have j_23 : ∀ (s0_23 : Int32), ((0 ≤ p1.toInt ∧ p1.toInt + 1 ≤ v_count.toInt) ∨ (s0_23.toInt = 6)) → w_X5_kindOf_23 Q s0_23 := by
    intro s0_23 f1
    unfold w_X5_kindOf_23
    exact hq s0_23 (by omega)
  have j_21 : ((p1.toInt + 1 ≤ 0) ∨ (0 ≤ p1.toInt ∧ v_count.toInt ≤ p1.toInt)) → w_X5_kindOf_21 Q := by
    intro f2
    unfold w_X5_kindOf_21
    exact j_23 6 (by omega)
  refine ⟨fun c1 => ?_, fun c1 => ?_⟩
  · have f3 : p1.toInt < 0 := i_lt (a := p1.toInt) (b := 0) rfl rfl c1
    exact j_21  (by omega)
  · have f4 : 0 ≤ p1.toInt := i_nlt (a := p1.toInt) (b := 0) rfl rfl c1
    refine ⟨fun c9 => ?_, fun c9 => ?_⟩
    · have f5 : v_count.toInt ≤ p1.toInt := i_le (a := v_count.toInt) (b := p1.toInt) rfl rfl c9
      exact j_21  (by omega)
    · have f6 : p1.toInt < v_count.toInt := i_nle (a := v_count.toInt) (b := p1.toInt) rfl rfl c9
      refine ⟨i_in (by omega) (by omega), ?_⟩
      intro x17 ex17
      exact j_23 x17 (by omega)
set_option maxHeartbeats 4000000 in
theorem ok_X5_nextOf {p1 : Int32} {v_count : Int32} {v_nexts : Nat → Int32} {Q : Int32 → Prop} (a0 : 0 ≤ v_count.toInt) (a1 : v_count.toInt ≤ 512) (hq : ∀ (r : Int32), ((0 ≤ p1.toInt ∧ p1.toInt + 1 ≤ v_count.toInt) ∨ (r.toInt + 1 = 0)) → Q r) : w_X5_nextOf p1 v_count v_nexts Q := by
  have q_t : (bz true).toInt = 1 := rfl
  have q_f : (bz false).toInt = 0 := rfl
  have q_m1 : ((-1) : Int32).toInt = (-1) := rfl
  unfold w_X5_nextOf
  have j_22 : ∀ (s0_22 : Int32), ((0 ≤ p1.toInt ∧ p1.toInt + 1 ≤ v_count.toInt) ∨ (s0_22.toInt + 1 = 0)) → w_X5_nextOf_22 Q s0_22 := by
    intro s0_22 f1
    unfold w_X5_nextOf_22
    exact hq s0_22 (by omega)
  have j_21 : ((p1.toInt + 1 ≤ 0) ∨ (0 ≤ p1.toInt ∧ v_count.toInt ≤ p1.toInt)) → w_X5_nextOf_21 Q := by
    intro f2
    unfold w_X5_nextOf_21
    exact j_22 (-1) (by omega)
  refine ⟨fun c1 => ?_, fun c1 => ?_⟩
  · have f3 : p1.toInt < 0 := i_lt (a := p1.toInt) (b := 0) rfl rfl c1
    exact j_21  (by omega)
  · have f4 : 0 ≤ p1.toInt := i_nlt (a := p1.toInt) (b := 0) rfl rfl c1
    refine ⟨fun c9 => ?_, fun c9 => ?_⟩
    · have f5 : v_count.toInt ≤ p1.toInt := i_le (a := v_count.toInt) (b := p1.toInt) rfl rfl c9
      exact j_21  (by omega)
    · have f6 : p1.toInt < v_count.toInt := i_nle (a := v_count.toInt) (b := p1.toInt) rfl rfl c9
      refine ⟨i_in (by omega) (by omega), ?_⟩
      intro x17 ex17
      exact j_22 x17 (by omega)
set_option maxHeartbeats 4000000 in
theorem ok_X5_otherOf {p1 : Int32} {v_count : Int32} {v_others : Nat → Int32} {Q : Int32 → Prop} (a0 : 0 ≤ v_count.toInt) (a1 : v_count.toInt ≤ 512) (hq : ∀ (r : Int32), ((0 ≤ p1.toInt ∧ p1.toInt + 1 ≤ v_count.toInt) ∨ (r.toInt + 1 = 0)) → Q r) : w_X5_otherOf p1 v_count v_others Q := by
  have q_t : (bz true).toInt = 1 := rfl
  have q_f : (bz false).toInt = 0 := rfl
  have q_m1 : ((-1) : Int32).toInt = (-1) := rfl
  unfold w_X5_otherOf
  have j_22 : ∀ (s0_22 : Int32), ((0 ≤ p1.toInt ∧ p1.toInt + 1 ≤ v_count.toInt) ∨ (s0_22.toInt + 1 = 0)) → w_X5_otherOf_22 Q s0_22 := by
    intro s0_22 f1
    unfold w_X5_otherOf_22
    exact hq s0_22 (by omega)
  have j_21 : ((p1.toInt + 1 ≤ 0) ∨ (0 ≤ p1.toInt ∧ v_count.toInt ≤ p1.toInt)) → w_X5_otherOf_21 Q := by
    intro f2
    unfold w_X5_otherOf_21
    exact j_22 (-1) (by omega)
  refine ⟨fun c1 => ?_, fun c1 => ?_⟩
  · have f3 : p1.toInt < 0 := i_lt (a := p1.toInt) (b := 0) rfl rfl c1
    exact j_21  (by omega)
  · have f4 : 0 ≤ p1.toInt := i_nlt (a := p1.toInt) (b := 0) rfl rfl c1
    refine ⟨fun c9 => ?_, fun c9 => ?_⟩
    · have f5 : v_count.toInt ≤ p1.toInt := i_le (a := v_count.toInt) (b := p1.toInt) rfl rfl c9
      exact j_21  (by omega)
    · have f6 : p1.toInt < v_count.toInt := i_nle (a := v_count.toInt) (b := p1.toInt) rfl rfl c9
      refine ⟨i_in (by omega) (by omega), ?_⟩
      intro x17 ex17
      exact j_22 x17 (by omega)
set_option maxHeartbeats 4000000 in
theorem ok_X5_add {p1 : Int32} {p2 : Int32} {p3 : Int32} {p4 : Int32} {v_count : Int32} {v_kinds : Nat → Int32} {v_subjects : Nat → Int32} {v_nexts : Nat → Int32} {v_others : Nat → Int32} {Q : Int32 → Int32 → (Nat → Int32) → (Nat → Int32) → (Nat → Int32) → (Nat → Int32) → Prop} (a0 : 0 ≤ v_count.toInt) (a1 : v_count.toInt ≤ 512) (hq : ∀ (r : Int32) (ov_count : Int32) (ov_kinds : Nat → Int32) (ov_subjects : Nat → Int32) (ov_nexts : Nat → Int32) (ov_others : Nat → Int32), v_count.toInt ≤ ov_count.toInt → ((r.toInt = v_count.toInt ∧ v_count.toInt ≤ 511 ∧ ov_count.toInt = v_count.toInt + 1) ∨ (r.toInt = p3.toInt ∧ ov_count.toInt = v_count.toInt ∧ 512 ≤ v_count.toInt)) → Q r ov_count ov_kinds ov_subjects ov_nexts ov_others) : w_X5_add p1 p2 p3 p4 v_count v_kinds v_subjects v_nexts v_others Q := by
  have q_t : (bz true).toInt = 1 := rfl
  have q_f : (bz false).toInt = 0 := rfl
  unfold w_X5_add
  refine ⟨fun c7 => ?_, fun c7 => ?_⟩
  · have f1 : v_count.toInt < 512 := i_lt (a := v_count.toInt) (b := 512) rfl rfl c7
    intro x24 ex24
    have f2 : x24.toInt = v_count.toInt + 1 := i_add (a := v_count.toInt) (b := 1) ex24 rfl rfl (by omega) (by omega)
    refine ⟨i_in (by omega) (by omega), ?_⟩
    intro g35 eg35
    refine ⟨i_in (by omega) (by omega), ?_⟩
    intro g43 eg43
    refine ⟨i_in (by omega) (by omega), ?_⟩
    intro g51 eg51
    refine ⟨i_in (by omega) (by omega), ?_⟩
    intro g60 eg60
    exact hq v_count x24 g35 g43 g51 g60 (by omega) (by omega)
  · have f3 : 512 ≤ v_count.toInt := i_nlt (a := v_count.toInt) (b := 512) rfl rfl c7
    exact hq p3 v_count v_kinds v_subjects v_nexts v_others (by omega) (by omega)
set_option maxHeartbeats 4000000 in
theorem ok_X5_aim {p1 : Int32} {p2 : Int32} {p3 : Int32} {p4 : Int32} {v_count : Int32} {v_nexts : Nat → Int32} {v_others : Nat → Int32} {Q : (Nat → Int32) → (Nat → Int32) → Prop} (a0 : 0 ≤ v_count.toInt) (a1 : v_count.toInt ≤ 512) (a2 : 0 ≤ p4.toInt) (a3 : p4.toInt ≤ 1) (hq : ∀ (ov_nexts : Nat → Int32) (ov_others : Nat → Int32), Q ov_nexts ov_others) : w_X5_aim p1 p2 p3 p4 v_count v_nexts v_others Q := by
  have q_t : (bz true).toInt = 1 := rfl
  have q_f : (bz false).toInt = 0 := rfl
  unfold w_X5_aim
  have j_44 : ∀ (v_nexts_44 : Nat → Int32) (v_others_44 : Nat → Int32), ((p1.toInt + 1 ≤ 0) ∨ (0 ≤ p1.toInt ∧ v_count.toInt ≤ p1.toInt) ∨ (0 ≤ p1.toInt ∧ p1.toInt + 1 ≤ v_count.toInt)) → w_X5_aim_44 Q v_nexts_44 v_others_44 := by
    intro v_nexts_44 v_others_44 f1
    unfold w_X5_aim_44
    exact hq v_nexts_44 v_others_44 
  refine ⟨fun c1 => ?_, fun c1 => ?_⟩
  · have f2 : p1.toInt < 0 := i_lt (a := p1.toInt) (b := 0) rfl rfl c1
    exact j_44 v_nexts v_others (by omega)
  · have f3 : 0 ≤ p1.toInt := i_nlt (a := p1.toInt) (b := 0) rfl rfl c1
    refine ⟨fun c9 => ?_, fun c9 => ?_⟩
    · have f4 : v_count.toInt ≤ p1.toInt := i_le (a := v_count.toInt) (b := p1.toInt) rfl rfl c9
      exact j_44 v_nexts v_others (by omega)
    · have f5 : p1.toInt < v_count.toInt := i_nle (a := v_count.toInt) (b := p1.toInt) rfl rfl c9
      have j_27 : ∀ (s0_27 : Int32), ((s0_27.toInt = p2.toInt ∧ p4.toInt = 0) ∨ (s0_27.toInt = p3.toInt)) → w_X5_aim_27 p1 p2 p3 p4 Q s0_27 p1 v_nexts v_others := by
        intro s0_27 f6
        unfold w_X5_aim_27
        refine ⟨i_in (by omega) (by omega), ?_⟩
        intro g27 eg27
        have j_43 : ∀ (s0_43 : Int32), ((s0_43.toInt = p3.toInt ∧ p4.toInt = 0) ∨ (s0_43.toInt = p2.toInt)) → w_X5_aim_43 Q s0_43 p1 g27 v_others := by
          intro s0_43 f7
          unfold w_X5_aim_43
          refine ⟨i_in (by omega) (by omega), ?_⟩
          intro g43 eg43
          exact j_44 g27 g43 (by omega)
        refine ⟨fun c35 => ?_, fun c35 => ?_⟩
        · have f8 : p4.toInt = 0 := i_eq (a := p4.toInt) (b := 0) rfl rfl c35
          exact j_43 p3 (by omega)
        · have f9 : p4.toInt ≠ 0 := i_ne (a := p4.toInt) (b := 0) rfl rfl c35
          exact j_43 p2 (by omega)
      refine ⟨fun c19 => ?_, fun c19 => ?_⟩
      · have f10 : p4.toInt = 0 := i_eq (a := p4.toInt) (b := 0) rfl rfl c19
        exact j_27 p2 (by omega)
      · have f11 : p4.toInt ≠ 0 := i_ne (a := p4.toInt) (b := 0) rfl rfl c19
        exact j_27 p3 (by omega)
set_option maxHeartbeats 4000000 in
theorem ok_X5_buildLoop {p1 : Int32} {p2 : Int32} {p3 : Int32} {p4 : Int32} {v_start : Int32} {v_count : Int32} {v_kinds : Nat → Int32} {v_subjects : Nat → Int32} {v_nexts : Nat → Int32} {v_others : Nat → Int32} {v_tree_there : Bool} {v_tree_count : Int32} {v_tree_captures : Int32} {v_tree_ranges : Int32} {v_tree_sort : Nat → Int32} {v_tree_end : Nat → Int32} {v_tree_before : Nat → Int32} {v_tree_last : Nat → Int32} {v_tree_value : Nat → Int32} {v_tree_low : Nat → Int32} {v_tree_high : Nat → Int32} {W_X5_build : Int32 → Int32 → Int32 → Int32 → Int32 → Int32 → (Nat → Int32) → (Nat → Int32) → (Nat → Int32) → (Nat → Int32) → Bool → Int32 → Int32 → Int32 → (Nat → Int32) → (Nat → Int32) → (Nat → Int32) → (Nat → Int32) → (Nat → Int32) → (Nat → Int32) → (Nat → Int32) → (Int32 → Int32 → (Nat → Int32) → (Nat → Int32) → (Nat → Int32) → (Nat → Int32) → Prop) → Prop} {lv : Int} (hW_X5_build : ∀ (p1 : Int32) (p2 : Int32) (p3 : Int32) (p4 : Int32) (v_start : Int32) (v_count : Int32) (v_kinds : Nat → Int32) (v_subjects : Nat → Int32) (v_nexts : Nat → Int32) (v_others : Nat → Int32) (v_tree_there : Bool) (v_tree_count : Int32) (v_tree_captures : Int32) (v_tree_ranges : Int32) (v_tree_sort : Nat → Int32) (v_tree_end : Nat → Int32) (v_tree_before : Nat → Int32) (v_tree_last : Nat → Int32) (v_tree_value : Nat → Int32) (v_tree_low : Nat → Int32) (v_tree_high : Nat → Int32) (Q : Int32 → Int32 → (Nat → Int32) → (Nat → Int32) → (Nat → Int32) → (Nat → Int32) → Prop), 0 ≤ v_count.toInt → v_count.toInt ≤ 512 → 0 ≤ v_tree_count.toInt → v_tree_count.toInt ≤ 256 → 0 ≤ v_tree_ranges.toInt → v_tree_ranges.toInt ≤ 512 → 0 ≤ p4.toInt → p4.toInt ≤ 61 → (lv : Int) + 1 ≤ p4.toInt → rp (fun k v => -1 ≤ v ∧ v ≤ 255) v_tree_last 0 v_tree_count.toInt → rp (fun k v => k < v ∧ v ≤ 256) v_tree_end 0 v_tree_count.toInt → rp (fun k v => v < k ∧ -1 ≤ v) v_tree_before 0 v_tree_count.toInt → (∀ (r : Int32) (ov_count : Int32) (ov_kinds : Nat → Int32) (ov_subjects : Nat → Int32) (ov_nexts : Nat → Int32) (ov_others : Nat → Int32), 0 ≤ ov_count.toInt → ov_count.toInt ≤ 512 → Q r ov_count ov_kinds ov_subjects ov_nexts ov_others) → W_X5_build p1 p2 p3 p4 v_start v_count v_kinds v_subjects v_nexts v_others v_tree_there v_tree_count v_tree_captures v_tree_ranges v_tree_sort v_tree_end v_tree_before v_tree_last v_tree_value v_tree_low v_tree_high Q) {Q : Int32 → Int32 → (Nat → Int32) → (Nat → Int32) → (Nat → Int32) → (Nat → Int32) → Prop} (a0 : 0 ≤ v_count.toInt) (a1 : v_count.toInt ≤ 512) (a2 : 0 ≤ v_tree_count.toInt) (a3 : v_tree_count.toInt ≤ 256) (a4 : 0 ≤ v_tree_ranges.toInt) (a5 : v_tree_ranges.toInt ≤ 512) (a6 : 0 ≤ p4.toInt) (a7 : p4.toInt ≤ 60) (a8 : (lv : Int) ≤ p4.toInt) (b0 : rp (fun k v => -1 ≤ v ∧ v ≤ 255) v_tree_last 0 v_tree_count.toInt) (b1 : rp (fun k v => k < v ∧ v ≤ 256) v_tree_end 0 v_tree_count.toInt) (b2 : rp (fun k v => v < k ∧ -1 ≤ v) v_tree_before 0 v_tree_count.toInt) (hq : ∀ (r : Int32) (ov_count : Int32) (ov_kinds : Nat → Int32) (ov_subjects : Nat → Int32) (ov_nexts : Nat → Int32) (ov_others : Nat → Int32), 0 ≤ ov_count.toInt + 1 → 0 ≤ ov_count.toInt → ov_count.toInt ≤ 512 → Q r ov_count ov_kinds ov_subjects ov_nexts ov_others) : w_X5_buildLoop W_X5_build p1 p2 p3 p4 v_start v_count v_kinds v_subjects v_nexts v_others v_tree_there v_tree_count v_tree_captures v_tree_ranges v_tree_sort v_tree_end v_tree_before v_tree_last v_tree_value v_tree_low v_tree_high Q := by
  have q_t : (bz true).toInt = 1 := rfl
  have q_f : (bz false).toInt = 0 := rfl
  have q_m1 : ((-1) : Int32).toInt = (-1) := rfl
  have q_0 : (0 : Int32).toInt = 0 := rfl
  have q_1 : (1 : Int32).toInt = 1 := rfl
  have q_4 : (4 : Int32).toInt = 4 := rfl
  have q_5 : (5 : Int32).toInt = 5 := rfl
  unfold w_X5_buildLoop
  refine ok_X10_firstOf (by omega) (by omega) (rp_mono b1 (by omega) (by omega)) (fun r5 f1 f2 => ?_)
  refine ok_X10_valueOf (by omega) (by omega) (fun r15 f3 => ?_)
  have j_27 : ∀ (s0_27 : Int32), ((s0_27.toInt = 0) ∨ (s0_27.toInt = 1 ∧ r15.toInt = 1)) → w_X5_buildLoop_27 W_X5_build p1 p2 p3 p4 v_start v_tree_there v_tree_count v_tree_captures v_tree_ranges v_tree_sort v_tree_end v_tree_before v_tree_last v_tree_value v_tree_low v_tree_high Q s0_27 r5 v_count v_kinds v_subjects v_nexts v_others := by
    intro s0_27 f4
    unfold w_X5_buildLoop_27
    refine ok_X10_isEndless (by omega) (by omega) (fun r37 f5 f6 => ?_)
    have j_90 : ∀ (l7_90 : Int32) (v_count_90 : Int32) (v_kinds_90 : Nat → Int32) (v_subjects_90 : Nat → Int32) (v_nexts_90 : Nat → Int32) (v_others_90 : Nat → Int32), 0 ≤ v_count_90.toInt → v_count_90.toInt ≤ 512 → ((l7_90.toInt = p2.toInt ∧ v_count_90.toInt = v_count.toInt ∧ r37.toInt = 0) ∨ (0 ≤ v_count_90.toInt ∧ v_count_90.toInt ≤ 512)) → w_X5_buildLoop_90 W_X5_build p1 p2 p3 p4 v_start v_tree_there v_tree_count v_tree_captures v_tree_ranges v_tree_sort v_tree_end v_tree_before v_tree_last v_tree_value v_tree_low v_tree_high Q r5 s0_27 l7_90 v_count_90 v_kinds_90 v_subjects_90 v_nexts_90 v_others_90 := by
      intro l7_90 v_count_90 v_kinds_90 v_subjects_90 v_nexts_90 v_others_90 f7 f8 f9
      unfold w_X5_buildLoop_90
      refine ok_X10_highOf (by omega) (by omega) (fun r95 f10 => ?_)
      have j_100 : ∀ n_100 : Nat, ∀ (l7_100 : Int32) (l8_100 : Int32) (v_count_100 : Int32) (v_kinds_100 : Nat → Int32) (v_subjects_100 : Nat → Int32) (v_nexts_100 : Nat → Int32) (v_others_100 : Nat → Int32), l8_100.toInt ≤ r95.toInt → 0 ≤ v_count_100.toInt → v_count_100.toInt ≤ 512 → (l8_100.toInt + 2147483649).toNat < n_100 → w_X5_buildLoop_100 W_X5_build p1 p2 p3 p4 v_start v_tree_there v_tree_count v_tree_captures v_tree_ranges v_tree_sort v_tree_end v_tree_before v_tree_last v_tree_value v_tree_low v_tree_high Q r5 s0_27 n_100 l7_100 l8_100 v_count_100 v_kinds_100 v_subjects_100 v_nexts_100 v_others_100 := by
        intro n_100
        induction n_100 with
        | zero =>
          intro l7_100 l8_100 v_count_100 v_kinds_100 v_subjects_100 v_nexts_100 v_others_100 f11 f12 f13 hm_100
          exfalso; omega
        | succ n_100 ih_100 =>
          intro l7_100 l8_100 v_count_100 v_kinds_100 v_subjects_100 v_nexts_100 v_others_100 f11 f12 f13 hm_100
          unfold w_X5_buildLoop_100
          unfold w_X5_buildLoop_100B
          refine ok_X10_lowOf (by omega) (by omega) (fun r107 f14 => ?_)
          refine ⟨fun c110 => ?_, fun c110 => ?_⟩
          · have f15 : l8_100.toInt ≤ r107.toInt := i_le (a := l8_100.toInt) (b := r107.toInt) rfl rfl c110
            have j_158 : ∀ n_158 : Nat, ∀ (l7_158 : Int32) (l8_158 : Int32) (v_count_158 : Int32) (v_kinds_158 : Nat → Int32) (v_subjects_158 : Nat → Int32) (v_nexts_158 : Nat → Int32) (v_others_158 : Nat → Int32), 0 ≤ l8_158.toInt → 0 ≤ v_count_158.toInt → v_count_158.toInt ≤ 512 → ((-1) * l8_158.toInt + 2147483648).toNat < n_158 → w_X5_buildLoop_158 W_X5_build p1 p3 p4 v_start v_tree_there v_tree_count v_tree_captures v_tree_ranges v_tree_sort v_tree_end v_tree_before v_tree_last v_tree_value v_tree_low v_tree_high Q r5 n_158 l7_158 l8_158 v_count_158 v_kinds_158 v_subjects_158 v_nexts_158 v_others_158 := by
              intro n_158
              induction n_158 with
              | zero =>
                intro l7_158 l8_158 v_count_158 v_kinds_158 v_subjects_158 v_nexts_158 v_others_158 f16 f17 f18 hm_158
                exfalso; omega
              | succ n_158 ih_158 =>
                intro l7_158 l8_158 v_count_158 v_kinds_158 v_subjects_158 v_nexts_158 v_others_158 f16 f17 f18 hm_158
                unfold w_X5_buildLoop_158
                unfold w_X5_buildLoop_158B
                refine ok_X10_lowOf (by omega) (by omega) (fun r165 f19 => ?_)
                refine ⟨fun c168 => ?_, fun c168 => ?_⟩
                · have f20 : r165.toInt ≤ l8_158.toInt := i_le (a := r165.toInt) (b := l8_158.toInt) rfl rfl c168
                  exact hq l7_158 v_count_158 v_kinds_158 v_subjects_158 v_nexts_158 v_others_158 (by omega) (by omega) (by omega)
                · have f21 : l8_158.toInt < r165.toInt := i_nle (a := r165.toInt) (b := l8_158.toInt) rfl rfl c168
                  intro x180 ex180
                  have f22 : x180.toInt = p4.toInt + 1 := i_add (a := p4.toInt) (b := 1) ex180 rfl rfl (by omega) (by omega)
                  refine hW_X5_build r5 l7_158 p3 x180 v_start v_count_158 v_kinds_158 v_subjects_158 v_nexts_158 v_others_158 v_tree_there v_tree_count v_tree_captures v_tree_ranges v_tree_sort v_tree_end v_tree_before v_tree_last v_tree_value v_tree_low v_tree_high _ (by omega) (by omega) (by omega) (by omega) (by omega) (by omega) (by omega) (by omega) (by omega) (rp_mono b0 (by omega) (by omega)) (rp_mono b1 (by omega) (by omega)) (rp_mono b2 (by omega) (by omega)) (fun r181 r181_0 r181_1 r181_2 r181_3 r181_4 f23 f24 => ?_)
                  intro x186 ex186
                  have f25 : x186.toInt = l8_158.toInt + 1 := i_add (a := l8_158.toInt) (b := 1) ex186 rfl rfl (by omega) (by have h8_0 := i_rng l8_100; have h8_1 := i_rng l8_158; have h8_2 := i_rng p1; have h8_3 := i_rng r107; have h8_4 := i_rng r15; have h8_5 := i_rng r165; have h8_6 := i_rng r5; have h8_7 := i_rng r95; have h8_8 := i_rng s0_27; have h8_9 := i_rng v_tree_count; omega)
                  exact ih_158 r181 x186 r181_0 r181_1 r181_2 r181_3 r181_4 (by omega) (by omega) (by omega) (by have h8_0 := i_rng l8_158; have h8_1 := i_rng x186; omega)
            exact ⟨(2147483648 : Int).toNat + 1, j_158   ((2147483648 : Int).toNat + 1) l7_100 0 v_count_100 v_kinds_100 v_subjects_100 v_nexts_100 v_others_100 (by omega) (by omega) (by omega) (by omega)⟩
          · have f26 : r107.toInt < l8_100.toInt := i_nle (a := l8_100.toInt) (b := r107.toInt) rfl rfl c110
            intro x122 ex122
            have f27 : x122.toInt = p4.toInt + 1 := i_add (a := p4.toInt) (b := 1) ex122 rfl rfl (by omega) (by omega)
            refine hW_X5_build r5 l7_100 p3 x122 v_start v_count_100 v_kinds_100 v_subjects_100 v_nexts_100 v_others_100 v_tree_there v_tree_count v_tree_captures v_tree_ranges v_tree_sort v_tree_end v_tree_before v_tree_last v_tree_value v_tree_low v_tree_high _ (by omega) (by omega) (by omega) (by omega) (by omega) (by omega) (by omega) (by omega) (by omega) (rp_mono b0 (by omega) (by omega)) (rp_mono b1 (by omega) (by omega)) (rp_mono b2 (by omega) (by omega)) (fun r123 r123_0 r123_1 r123_2 r123_3 r123_4 f28 f29 => ?_)
            refine ok_X5_add (by omega) (by omega) (fun r133 r133_0 r133_1 r133_2 r133_3 r133_4 f30 f31 => ?_)
            refine ok_X5_aim (by omega) (by omega) (by omega) (by omega) (fun r146_0 r146_1 => ?_)
            intro x149 ex149
            have f32 : x149.toInt = l8_100.toInt + (-1) := i_add (a := l8_100.toInt) (b := (-1)) ex149 rfl rfl (by have h8_0 := i_rng l8_100; have h8_1 := i_rng p1; have h8_2 := i_rng r107; have h8_3 := i_rng r15; have h8_4 := i_rng r5; have h8_5 := i_rng r95; have h8_6 := i_rng s0_27; have h8_7 := i_rng v_tree_count; omega) (by have h8_0 := i_rng l8_100; have h8_1 := i_rng p1; have h8_2 := i_rng r107; have h8_3 := i_rng r15; have h8_4 := i_rng r5; have h8_5 := i_rng r95; have h8_6 := i_rng s0_27; have h8_7 := i_rng v_tree_count; omega)
            exact ih_100 r133 x149 r133_0 r133_1 r133_2 r146_0 r146_1 (by omega) (by omega) (by omega) (by have h8_0 := i_rng l8_100; have h8_1 := i_rng x149; omega)
      exact ⟨(r95.toInt + 2147483649).toNat + 1, j_100   ((r95.toInt + 2147483649).toNat + 1) l7_90 r95 v_count_90 v_kinds_90 v_subjects_90 v_nexts_90 v_others_90 (by omega) (by omega) (by omega) (by omega)⟩
    refine ⟨fun c40 => ?_, fun c40 => ?_⟩
    · have f33 : r37.toInt = 0 := i_eq (a := r37.toInt) (b := 0) rfl rfl c40
      exact j_90 p2 v_count v_kinds v_subjects v_nexts v_others (by omega) (by omega) (by omega)
    · have f34 : r37.toInt ≠ 0 := i_ne (a := r37.toInt) (b := 0) rfl rfl c40
      refine ok_X5_add (by omega) (by omega) (fun r48 r48_0 r48_1 r48_2 r48_3 r48_4 f35 f36 => ?_)
      intro x60 ex60
      refine ok_X5_add (by omega) (by omega) (fun r61 r61_0 r61_1 r61_2 r61_3 r61_4 f37 f38 => ?_)
      intro x76 ex76
      intro x80 ex80
      have f39 : x80.toInt = p4.toInt + 1 := i_add (a := p4.toInt) (b := 1) ex80 rfl rfl (by omega) (by omega)
      refine hW_X5_build r5 r61 x76 x80 v_start r61_0 r61_1 r61_2 r61_3 r61_4 v_tree_there v_tree_count v_tree_captures v_tree_ranges v_tree_sort v_tree_end v_tree_before v_tree_last v_tree_value v_tree_low v_tree_high _ (by omega) (by omega) (by omega) (by omega) (by omega) (by omega) (by omega) (by omega) (by omega) (rp_mono b0 (by omega) (by omega)) (rp_mono b1 (by omega) (by omega)) (rp_mono b2 (by omega) (by omega)) (fun r81 r81_0 r81_1 r81_2 r81_3 r81_4 f40 f41 => ?_)
      refine ok_X5_aim (by omega) (by omega) (by omega) (by omega) (fun r87_0 r87_1 => ?_)
      exact j_90 r48 r81_0 r81_1 r81_2 r87_0 r87_1 (by omega) (by omega) (by omega)
  refine ⟨fun c19 => ?_, fun c19 => ?_⟩
  · have f42 : r15.toInt ≠ 1 := i_ne (a := r15.toInt) (b := 1) rfl rfl c19
    exact j_27 0 (by omega)
  · have f43 : r15.toInt = 1 := i_eq (a := r15.toInt) (b := 1) rfl rfl c19
    exact j_27 1 (by omega)
set_option maxHeartbeats 4000000 in
theorem ok_X5_buildChoice {p1 : Int32} {p2 : Int32} {p3 : Int32} {p4 : Int32} {v_start : Int32} {v_count : Int32} {v_kinds : Nat → Int32} {v_subjects : Nat → Int32} {v_nexts : Nat → Int32} {v_others : Nat → Int32} {v_tree_there : Bool} {v_tree_count : Int32} {v_tree_captures : Int32} {v_tree_ranges : Int32} {v_tree_sort : Nat → Int32} {v_tree_end : Nat → Int32} {v_tree_before : Nat → Int32} {v_tree_last : Nat → Int32} {v_tree_value : Nat → Int32} {v_tree_low : Nat → Int32} {v_tree_high : Nat → Int32} {W_X5_build : Int32 → Int32 → Int32 → Int32 → Int32 → Int32 → (Nat → Int32) → (Nat → Int32) → (Nat → Int32) → (Nat → Int32) → Bool → Int32 → Int32 → Int32 → (Nat → Int32) → (Nat → Int32) → (Nat → Int32) → (Nat → Int32) → (Nat → Int32) → (Nat → Int32) → (Nat → Int32) → (Int32 → Int32 → (Nat → Int32) → (Nat → Int32) → (Nat → Int32) → (Nat → Int32) → Prop) → Prop} {lv : Int} (hW_X5_build : ∀ (p1 : Int32) (p2 : Int32) (p3 : Int32) (p4 : Int32) (v_start : Int32) (v_count : Int32) (v_kinds : Nat → Int32) (v_subjects : Nat → Int32) (v_nexts : Nat → Int32) (v_others : Nat → Int32) (v_tree_there : Bool) (v_tree_count : Int32) (v_tree_captures : Int32) (v_tree_ranges : Int32) (v_tree_sort : Nat → Int32) (v_tree_end : Nat → Int32) (v_tree_before : Nat → Int32) (v_tree_last : Nat → Int32) (v_tree_value : Nat → Int32) (v_tree_low : Nat → Int32) (v_tree_high : Nat → Int32) (Q : Int32 → Int32 → (Nat → Int32) → (Nat → Int32) → (Nat → Int32) → (Nat → Int32) → Prop), 0 ≤ v_count.toInt → v_count.toInt ≤ 512 → 0 ≤ v_tree_count.toInt → v_tree_count.toInt ≤ 256 → 0 ≤ v_tree_ranges.toInt → v_tree_ranges.toInt ≤ 512 → 0 ≤ p4.toInt → p4.toInt ≤ 61 → (lv : Int) + 1 ≤ p4.toInt → rp (fun k v => -1 ≤ v ∧ v ≤ 255) v_tree_last 0 v_tree_count.toInt → rp (fun k v => k < v ∧ v ≤ 256) v_tree_end 0 v_tree_count.toInt → rp (fun k v => v < k ∧ -1 ≤ v) v_tree_before 0 v_tree_count.toInt → (∀ (r : Int32) (ov_count : Int32) (ov_kinds : Nat → Int32) (ov_subjects : Nat → Int32) (ov_nexts : Nat → Int32) (ov_others : Nat → Int32), 0 ≤ ov_count.toInt → ov_count.toInt ≤ 512 → Q r ov_count ov_kinds ov_subjects ov_nexts ov_others) → W_X5_build p1 p2 p3 p4 v_start v_count v_kinds v_subjects v_nexts v_others v_tree_there v_tree_count v_tree_captures v_tree_ranges v_tree_sort v_tree_end v_tree_before v_tree_last v_tree_value v_tree_low v_tree_high Q) {Q : Int32 → Int32 → (Nat → Int32) → (Nat → Int32) → (Nat → Int32) → (Nat → Int32) → Prop} (a0 : 0 ≤ v_count.toInt) (a1 : v_count.toInt ≤ 512) (a2 : 0 ≤ v_tree_count.toInt) (a3 : v_tree_count.toInt ≤ 256) (a4 : 0 ≤ v_tree_ranges.toInt) (a5 : v_tree_ranges.toInt ≤ 512) (a6 : 0 ≤ p4.toInt) (a7 : p4.toInt ≤ 60) (a8 : (lv : Int) ≤ p4.toInt) (b0 : rp (fun k v => -1 ≤ v ∧ v ≤ 255) v_tree_last 0 v_tree_count.toInt) (b1 : rp (fun k v => k < v ∧ v ≤ 256) v_tree_end 0 v_tree_count.toInt) (b2 : rp (fun k v => v < k ∧ -1 ≤ v) v_tree_before 0 v_tree_count.toInt) (hq : ∀ (r : Int32) (ov_count : Int32) (ov_kinds : Nat → Int32) (ov_subjects : Nat → Int32) (ov_nexts : Nat → Int32) (ov_others : Nat → Int32), 0 ≤ ov_count.toInt + 1 → 0 ≤ ov_count.toInt → ov_count.toInt ≤ 512 → Q r ov_count ov_kinds ov_subjects ov_nexts ov_others) : w_X5_buildChoice W_X5_build p1 p2 p3 p4 v_start v_count v_kinds v_subjects v_nexts v_others v_tree_there v_tree_count v_tree_captures v_tree_ranges v_tree_sort v_tree_end v_tree_before v_tree_last v_tree_value v_tree_low v_tree_high Q := by
  have q_t : (bz true).toInt = 1 := rfl
  have q_f : (bz false).toInt = 0 := rfl
  have q_m1 : ((-1) : Int32).toInt = (-1) := rfl
  have q_4 : (4 : Int32).toInt = 4 := rfl
  unfold w_X5_buildChoice
  refine ok_X10_lastOf (by omega) (by omega) (rp_mono b0 (by omega) (by omega)) (fun r5 f1 => ?_)
  intro x18 ex18
  have f2 : x18.toInt = p4.toInt + 1 := i_add (a := p4.toInt) (b := 1) ex18 rfl rfl (by omega) (by omega)
  refine hW_X5_build r5 p2 p3 x18 v_start v_count v_kinds v_subjects v_nexts v_others v_tree_there v_tree_count v_tree_captures v_tree_ranges v_tree_sort v_tree_end v_tree_before v_tree_last v_tree_value v_tree_low v_tree_high _ (by omega) (by omega) (by omega) (by omega) (by omega) (by omega) (by omega) (by omega) (by omega) (rp_mono b0 (by omega) (by omega)) (rp_mono b1 (by omega) (by omega)) (rp_mono b2 (by omega) (by omega)) (fun r19 r19_0 r19_1 r19_2 r19_3 r19_4 f3 f4 => ?_)
  refine ok_X10_beforeOf (by omega) (by omega) (rp_mono b2 (by omega) (by omega)) (fun r30 f5 => ?_)
  have j_35 : ∀ n_35 : Nat, ∀ (l6_35 : Int32) (l7_35 : Int32) (v_count_35 : Int32) (v_kinds_35 : Nat → Int32) (v_subjects_35 : Nat → Int32) (v_nexts_35 : Nat → Int32) (v_others_35 : Nat → Int32), 0 ≤ l7_35.toInt + 1 → l7_35.toInt ≤ r30.toInt → 0 ≤ v_count_35.toInt → v_count_35.toInt ≤ 512 → (l7_35.toInt + 2147483649).toNat < n_35 → w_X5_buildChoice_35 W_X5_build p2 p3 p4 v_start v_tree_there v_tree_count v_tree_captures v_tree_ranges v_tree_sort v_tree_end v_tree_before v_tree_last v_tree_value v_tree_low v_tree_high Q n_35 l6_35 l7_35 v_count_35 v_kinds_35 v_subjects_35 v_nexts_35 v_others_35 := by
    intro n_35
    induction n_35 with
    | zero =>
      intro l6_35 l7_35 v_count_35 v_kinds_35 v_subjects_35 v_nexts_35 v_others_35 f6 f7 f8 f9 hm_35
      exfalso; omega
    | succ n_35 ih_35 =>
      intro l6_35 l7_35 v_count_35 v_kinds_35 v_subjects_35 v_nexts_35 v_others_35 f6 f7 f8 f9 hm_35
      unfold w_X5_buildChoice_35
      unfold w_X5_buildChoice_35B
      refine ⟨fun c38 => ?_, fun c38 => ?_⟩
      · have f10 : l7_35.toInt = (-1) := i_eq (a := l7_35.toInt) (b := (-1)) rfl rfl c38
        exact hq l6_35 v_count_35 v_kinds_35 v_subjects_35 v_nexts_35 v_others_35 (by omega) (by omega) (by omega)
      · have f11 : l7_35.toInt ≠ (-1) := i_ne (a := l7_35.toInt) (b := (-1)) rfl rfl c38
        intro x52 ex52
        have f12 : x52.toInt = p4.toInt + 1 := i_add (a := p4.toInt) (b := 1) ex52 rfl rfl (by omega) (by omega)
        refine hW_X5_build l7_35 p2 p3 x52 v_start v_count_35 v_kinds_35 v_subjects_35 v_nexts_35 v_others_35 v_tree_there v_tree_count v_tree_captures v_tree_ranges v_tree_sort v_tree_end v_tree_before v_tree_last v_tree_value v_tree_low v_tree_high _ (by omega) (by omega) (by omega) (by omega) (by omega) (by omega) (by omega) (by omega) (by omega) (rp_mono b0 (by omega) (by omega)) (rp_mono b1 (by omega) (by omega)) (rp_mono b2 (by omega) (by omega)) (fun r53 r53_0 r53_1 r53_2 r53_3 r53_4 f13 f14 => ?_)
        refine ok_X5_add (by omega) (by omega) (fun r58 r58_0 r58_1 r58_2 r58_3 r58_4 f15 f16 => ?_)
        refine ok_X10_beforeOf (by omega) (by omega) (rp_mono b2 (by omega) (by omega)) (fun r69 f17 => ?_)
        exact ih_35 r58 r69 r58_0 r58_1 r58_2 r58_3 r58_4 (by omega) (by omega) (by omega) (by omega) (by have h8_0 := i_rng l7_35; have h8_1 := i_rng r69; omega)
  exact ⟨(r30.toInt + 2147483649).toNat + 1, j_35   ((r30.toInt + 2147483649).toNat + 1) r19 r30 r19_0 r19_1 r19_2 r19_3 r19_4 (by omega) (by omega) (by omega) (by omega) (by omega)⟩
set_option maxHeartbeats 4000000 in
theorem ok_X5_buildRow {p1 : Int32} {p2 : Int32} {p3 : Int32} {p4 : Int32} {v_start : Int32} {v_count : Int32} {v_kinds : Nat → Int32} {v_subjects : Nat → Int32} {v_nexts : Nat → Int32} {v_others : Nat → Int32} {v_tree_there : Bool} {v_tree_count : Int32} {v_tree_captures : Int32} {v_tree_ranges : Int32} {v_tree_sort : Nat → Int32} {v_tree_end : Nat → Int32} {v_tree_before : Nat → Int32} {v_tree_last : Nat → Int32} {v_tree_value : Nat → Int32} {v_tree_low : Nat → Int32} {v_tree_high : Nat → Int32} {W_X5_build : Int32 → Int32 → Int32 → Int32 → Int32 → Int32 → (Nat → Int32) → (Nat → Int32) → (Nat → Int32) → (Nat → Int32) → Bool → Int32 → Int32 → Int32 → (Nat → Int32) → (Nat → Int32) → (Nat → Int32) → (Nat → Int32) → (Nat → Int32) → (Nat → Int32) → (Nat → Int32) → (Int32 → Int32 → (Nat → Int32) → (Nat → Int32) → (Nat → Int32) → (Nat → Int32) → Prop) → Prop} {lv : Int} (hW_X5_build : ∀ (p1 : Int32) (p2 : Int32) (p3 : Int32) (p4 : Int32) (v_start : Int32) (v_count : Int32) (v_kinds : Nat → Int32) (v_subjects : Nat → Int32) (v_nexts : Nat → Int32) (v_others : Nat → Int32) (v_tree_there : Bool) (v_tree_count : Int32) (v_tree_captures : Int32) (v_tree_ranges : Int32) (v_tree_sort : Nat → Int32) (v_tree_end : Nat → Int32) (v_tree_before : Nat → Int32) (v_tree_last : Nat → Int32) (v_tree_value : Nat → Int32) (v_tree_low : Nat → Int32) (v_tree_high : Nat → Int32) (Q : Int32 → Int32 → (Nat → Int32) → (Nat → Int32) → (Nat → Int32) → (Nat → Int32) → Prop), 0 ≤ v_count.toInt → v_count.toInt ≤ 512 → 0 ≤ v_tree_count.toInt → v_tree_count.toInt ≤ 256 → 0 ≤ v_tree_ranges.toInt → v_tree_ranges.toInt ≤ 512 → 0 ≤ p4.toInt → p4.toInt ≤ 61 → (lv : Int) + 1 ≤ p4.toInt → rp (fun k v => -1 ≤ v ∧ v ≤ 255) v_tree_last 0 v_tree_count.toInt → rp (fun k v => k < v ∧ v ≤ 256) v_tree_end 0 v_tree_count.toInt → rp (fun k v => v < k ∧ -1 ≤ v) v_tree_before 0 v_tree_count.toInt → (∀ (r : Int32) (ov_count : Int32) (ov_kinds : Nat → Int32) (ov_subjects : Nat → Int32) (ov_nexts : Nat → Int32) (ov_others : Nat → Int32), 0 ≤ ov_count.toInt → ov_count.toInt ≤ 512 → Q r ov_count ov_kinds ov_subjects ov_nexts ov_others) → W_X5_build p1 p2 p3 p4 v_start v_count v_kinds v_subjects v_nexts v_others v_tree_there v_tree_count v_tree_captures v_tree_ranges v_tree_sort v_tree_end v_tree_before v_tree_last v_tree_value v_tree_low v_tree_high Q) {Q : Int32 → Int32 → (Nat → Int32) → (Nat → Int32) → (Nat → Int32) → (Nat → Int32) → Prop} (a0 : 0 ≤ v_count.toInt) (a1 : v_count.toInt ≤ 512) (a2 : 0 ≤ v_tree_count.toInt) (a3 : v_tree_count.toInt ≤ 256) (a4 : 0 ≤ v_tree_ranges.toInt) (a5 : v_tree_ranges.toInt ≤ 512) (a6 : 0 ≤ p4.toInt) (a7 : p4.toInt ≤ 60) (a8 : (lv : Int) ≤ p4.toInt) (b0 : rp (fun k v => -1 ≤ v ∧ v ≤ 255) v_tree_last 0 v_tree_count.toInt) (b1 : rp (fun k v => k < v ∧ v ≤ 256) v_tree_end 0 v_tree_count.toInt) (b2 : rp (fun k v => v < k ∧ -1 ≤ v) v_tree_before 0 v_tree_count.toInt) (hq : ∀ (r : Int32) (ov_count : Int32) (ov_kinds : Nat → Int32) (ov_subjects : Nat → Int32) (ov_nexts : Nat → Int32) (ov_others : Nat → Int32), 0 ≤ ov_count.toInt + 1 → 0 ≤ ov_count.toInt → ov_count.toInt ≤ 512 → Q r ov_count ov_kinds ov_subjects ov_nexts ov_others) : w_X5_buildRow W_X5_build p1 p2 p3 p4 v_start v_count v_kinds v_subjects v_nexts v_others v_tree_there v_tree_count v_tree_captures v_tree_ranges v_tree_sort v_tree_end v_tree_before v_tree_last v_tree_value v_tree_low v_tree_high Q := by
  have q_t : (bz true).toInt = 1 := rfl
  have q_f : (bz false).toInt = 0 := rfl
  unfold w_X5_buildRow
  refine ok_X10_lastOf (by omega) (by omega) (rp_mono b0 (by omega) (by omega)) (fun r8 f1 => ?_)
  have j_13 : ∀ n_13 : Nat, ∀ (l5_13 : Int32) (l6_13 : Int32) (v_count_13 : Int32) (v_kinds_13 : Nat → Int32) (v_subjects_13 : Nat → Int32) (v_nexts_13 : Nat → Int32) (v_others_13 : Nat → Int32), 0 ≤ l6_13.toInt + 1 → l6_13.toInt ≤ r8.toInt → 0 ≤ v_count_13.toInt → v_count_13.toInt ≤ 512 → (l6_13.toInt + 2147483649).toNat < n_13 → w_X5_buildRow_13 W_X5_build p3 p4 v_start v_tree_there v_tree_count v_tree_captures v_tree_ranges v_tree_sort v_tree_end v_tree_before v_tree_last v_tree_value v_tree_low v_tree_high Q n_13 l5_13 l6_13 v_count_13 v_kinds_13 v_subjects_13 v_nexts_13 v_others_13 := by
    intro n_13
    induction n_13 with
    | zero =>
      intro l5_13 l6_13 v_count_13 v_kinds_13 v_subjects_13 v_nexts_13 v_others_13 f2 f3 f4 f5 hm_13
      exfalso; omega
    | succ n_13 ih_13 =>
      intro l5_13 l6_13 v_count_13 v_kinds_13 v_subjects_13 v_nexts_13 v_others_13 f2 f3 f4 f5 hm_13
      unfold w_X5_buildRow_13
      unfold w_X5_buildRow_13B
      refine ⟨fun c16 => ?_, fun c16 => ?_⟩
      · have f6 : l6_13.toInt = (-1) := i_eq (a := l6_13.toInt) (b := (-1)) rfl rfl c16
        exact hq l5_13 v_count_13 v_kinds_13 v_subjects_13 v_nexts_13 v_others_13 (by omega) (by omega) (by omega)
      · have f7 : l6_13.toInt ≠ (-1) := i_ne (a := l6_13.toInt) (b := (-1)) rfl rfl c16
        intro x28 ex28
        have f8 : x28.toInt = p4.toInt + 1 := i_add (a := p4.toInt) (b := 1) ex28 rfl rfl (by omega) (by omega)
        refine hW_X5_build l6_13 l5_13 p3 x28 v_start v_count_13 v_kinds_13 v_subjects_13 v_nexts_13 v_others_13 v_tree_there v_tree_count v_tree_captures v_tree_ranges v_tree_sort v_tree_end v_tree_before v_tree_last v_tree_value v_tree_low v_tree_high _ (by omega) (by omega) (by omega) (by omega) (by omega) (by omega) (by omega) (by omega) (by omega) (rp_mono b0 (by omega) (by omega)) (rp_mono b1 (by omega) (by omega)) (rp_mono b2 (by omega) (by omega)) (fun r29 r29_0 r29_1 r29_2 r29_3 r29_4 f9 f10 => ?_)
        refine ok_X10_beforeOf (by omega) (by omega) (rp_mono b2 (by omega) (by omega)) (fun r40 f11 => ?_)
        exact ih_13 r29 r40 r29_0 r29_1 r29_2 r29_3 r29_4 (by omega) (by omega) (by omega) (by omega) (by have h8_0 := i_rng l6_13; have h8_1 := i_rng r40; omega)
  exact ⟨(r8.toInt + 2147483649).toNat + 1, j_13   ((r8.toInt + 2147483649).toNat + 1) p2 r8 v_count v_kinds v_subjects v_nexts v_others (by omega) (by omega) (by omega) (by omega) (by omega)⟩
set_option maxHeartbeats 4000000 in
theorem okB_X5_build {p1 : Int32} {p2 : Int32} {p3 : Int32} {p4 : Int32} {v_start : Int32} {v_count : Int32} {v_kinds : Nat → Int32} {v_subjects : Nat → Int32} {v_nexts : Nat → Int32} {v_others : Nat → Int32} {v_tree_there : Bool} {v_tree_count : Int32} {v_tree_captures : Int32} {v_tree_ranges : Int32} {v_tree_sort : Nat → Int32} {v_tree_end : Nat → Int32} {v_tree_before : Nat → Int32} {v_tree_last : Nat → Int32} {v_tree_value : Nat → Int32} {v_tree_low : Nat → Int32} {v_tree_high : Nat → Int32} {W_X5_build : Int32 → Int32 → Int32 → Int32 → Int32 → Int32 → (Nat → Int32) → (Nat → Int32) → (Nat → Int32) → (Nat → Int32) → Bool → Int32 → Int32 → Int32 → (Nat → Int32) → (Nat → Int32) → (Nat → Int32) → (Nat → Int32) → (Nat → Int32) → (Nat → Int32) → (Nat → Int32) → (Int32 → Int32 → (Nat → Int32) → (Nat → Int32) → (Nat → Int32) → (Nat → Int32) → Prop) → Prop} {lv : Int} (hW_X5_build : ∀ (p1 : Int32) (p2 : Int32) (p3 : Int32) (p4 : Int32) (v_start : Int32) (v_count : Int32) (v_kinds : Nat → Int32) (v_subjects : Nat → Int32) (v_nexts : Nat → Int32) (v_others : Nat → Int32) (v_tree_there : Bool) (v_tree_count : Int32) (v_tree_captures : Int32) (v_tree_ranges : Int32) (v_tree_sort : Nat → Int32) (v_tree_end : Nat → Int32) (v_tree_before : Nat → Int32) (v_tree_last : Nat → Int32) (v_tree_value : Nat → Int32) (v_tree_low : Nat → Int32) (v_tree_high : Nat → Int32) (Q : Int32 → Int32 → (Nat → Int32) → (Nat → Int32) → (Nat → Int32) → (Nat → Int32) → Prop), 0 ≤ v_count.toInt → v_count.toInt ≤ 512 → 0 ≤ v_tree_count.toInt → v_tree_count.toInt ≤ 256 → 0 ≤ v_tree_ranges.toInt → v_tree_ranges.toInt ≤ 512 → 0 ≤ p4.toInt → p4.toInt ≤ 61 → (lv : Int) + 1 ≤ p4.toInt → rp (fun k v => -1 ≤ v ∧ v ≤ 255) v_tree_last 0 v_tree_count.toInt → rp (fun k v => k < v ∧ v ≤ 256) v_tree_end 0 v_tree_count.toInt → rp (fun k v => v < k ∧ -1 ≤ v) v_tree_before 0 v_tree_count.toInt → (∀ (r : Int32) (ov_count : Int32) (ov_kinds : Nat → Int32) (ov_subjects : Nat → Int32) (ov_nexts : Nat → Int32) (ov_others : Nat → Int32), 0 ≤ ov_count.toInt → ov_count.toInt ≤ 512 → Q r ov_count ov_kinds ov_subjects ov_nexts ov_others) → W_X5_build p1 p2 p3 p4 v_start v_count v_kinds v_subjects v_nexts v_others v_tree_there v_tree_count v_tree_captures v_tree_ranges v_tree_sort v_tree_end v_tree_before v_tree_last v_tree_value v_tree_low v_tree_high Q) {Q : Int32 → Int32 → (Nat → Int32) → (Nat → Int32) → (Nat → Int32) → (Nat → Int32) → Prop} (a0 : 0 ≤ v_count.toInt) (a1 : v_count.toInt ≤ 512) (a2 : 0 ≤ v_tree_count.toInt) (a3 : v_tree_count.toInt ≤ 256) (a4 : 0 ≤ v_tree_ranges.toInt) (a5 : v_tree_ranges.toInt ≤ 512) (a6 : 0 ≤ p4.toInt) (a7 : p4.toInt ≤ 61) (a8 : (lv : Int) ≤ p4.toInt) (b0 : rp (fun k v => -1 ≤ v ∧ v ≤ 255) v_tree_last 0 v_tree_count.toInt) (b1 : rp (fun k v => k < v ∧ v ≤ 256) v_tree_end 0 v_tree_count.toInt) (b2 : rp (fun k v => v < k ∧ -1 ≤ v) v_tree_before 0 v_tree_count.toInt) (hq : ∀ (r : Int32) (ov_count : Int32) (ov_kinds : Nat → Int32) (ov_subjects : Nat → Int32) (ov_nexts : Nat → Int32) (ov_others : Nat → Int32), 0 ≤ ov_count.toInt → ov_count.toInt ≤ 512 → Q r ov_count ov_kinds ov_subjects ov_nexts ov_others) : wB_X5_build W_X5_build p1 p2 p3 p4 v_start v_count v_kinds v_subjects v_nexts v_others v_tree_there v_tree_count v_tree_captures v_tree_ranges v_tree_sort v_tree_end v_tree_before v_tree_last v_tree_value v_tree_low v_tree_high Q := by
  have q_t : (bz true).toInt = 1 := rfl
  have q_f : (bz false).toInt = 0 := rfl
  have q_m1 : ((-1) : Int32).toInt = (-1) := rfl
  have q_0 : (0 : Int32).toInt = 0 := rfl
  have q_1 : (1 : Int32).toInt = 1 := rfl
  have q_2 : (2 : Int32).toInt = 2 := rfl
  have q_3 : (3 : Int32).toInt = 3 := rfl
  unfold wB_X5_build
  refine ⟨fun c4 => ?_, fun c4 => ?_⟩
  · have f1 : p4.toInt ≤ 60 := i_le (a := p4.toInt) (b := 60) rfl rfl c4
    refine ok_X10_sortOf (by omega) (by omega) (fun r14 f2 => ?_)
    have j_68 : ((r14.toInt = 0) ∨ (r14.toInt = 1) ∨ (r14.toInt = 2)) → w_X5_build_68 W_X5_build p1 p2 p3 Q v_count v_kinds v_subjects v_nexts v_others := by
      intro f3
      unfold w_X5_build_68
      refine ok_X5_add (by omega) (by omega) (fun r73 r73_0 r73_1 r73_2 r73_3 r73_4 f4 f5 => ?_)
      exact hq r73 r73_0 r73_1 r73_2 r73_3 r73_4 (by omega) (by omega)
    have j_174 : r14.toInt ≠ 0 → r14.toInt ≠ 1 → r14.toInt ≠ 2 → r14.toInt ≠ 3 → r14.toInt ≠ 5 → r14.toInt ≠ 6 → r14.toInt ≠ 7 → r14.toInt ≠ 8 → w_X5_build_174 W_X5_build p1 p2 p3 p4 v_start v_tree_there v_tree_count v_tree_captures v_tree_ranges v_tree_sort v_tree_end v_tree_before v_tree_last v_tree_value v_tree_low v_tree_high Q v_count v_kinds v_subjects v_nexts v_others := by
      intro f6 f7 f8 f9 f10 f11 f12 f13
      unfold w_X5_build_174
      refine ok_X10_firstOf (by omega) (by omega) (rp_mono b1 (by omega) (by omega)) (fun r180 f14 f15 => ?_)
      intro x188 ex188
      have f16 : x188.toInt = p4.toInt + 1 := i_add (a := p4.toInt) (b := 1) ex188 rfl rfl (by omega) (by omega)
      refine hW_X5_build r180 p2 p3 x188 v_start v_count v_kinds v_subjects v_nexts v_others v_tree_there v_tree_count v_tree_captures v_tree_ranges v_tree_sort v_tree_end v_tree_before v_tree_last v_tree_value v_tree_low v_tree_high _ (by omega) (by omega) (by omega) (by omega) (by omega) (by omega) (by omega) (by omega) (by omega) (rp_mono b0 (by omega) (by omega)) (rp_mono b1 (by omega) (by omega)) (rp_mono b2 (by omega) (by omega)) (fun r189 r189_0 r189_1 r189_2 r189_3 r189_4 f17 f18 => ?_)
      exact hq r189 r189_0 r189_1 r189_2 r189_3 r189_4 (by omega) (by omega)
    refine ⟨fun c17_0 => ?_, fun c17_1 => ?_, fun c17_2 => ?_, fun c17_3 => ?_, fun c17_4 => ?_, fun c17_5 => ?_, fun c17_6 => ?_, fun c17_7 => ?_, ?_⟩
    · have f19 : r14.toInt = 0 := i_eq (a := r14.toInt) (b := 0) rfl rfl c17_0
      exact j_68  (by omega)
    · have f20 : r14.toInt = 1 := i_eq (a := r14.toInt) (b := 1) rfl rfl c17_1
      exact j_68  (by omega)
    · have f21 : r14.toInt = 2 := i_eq (a := r14.toInt) (b := 2) rfl rfl c17_2
      exact j_68  (by omega)
    · have f22 : r14.toInt = 3 := i_eq (a := r14.toInt) (b := 3) rfl rfl c17_3
      refine ok_X10_valueOf (by omega) (by omega) (fun r84 f23 => ?_)
      refine ok_X5_add (by omega) (by omega) (fun r89 r89_0 r89_1 r89_2 r89_3 r89_4 f24 f25 => ?_)
      exact hq r89 r89_0 r89_1 r89_2 r89_3 r89_4 (by omega) (by omega)
    · have f26 : r14.toInt = 5 := i_eq (a := r14.toInt) (b := 5) rfl rfl c17_4
      refine ok_X5_buildRow (lv := lv) hW_X5_build (by omega) (by omega) (by omega) (by omega) (by omega) (by omega) (by omega) (by omega) (by omega) (rp_mono b0 (by omega) (by omega)) (rp_mono b1 (by omega) (by omega)) (rp_mono b2 (by omega) (by omega)) (fun r99 r99_0 r99_1 r99_2 r99_3 r99_4 f27 f28 f29 => ?_)
      exact hq r99 r99_0 r99_1 r99_2 r99_3 r99_4 (by omega) (by omega)
    · have f30 : r14.toInt = 6 := i_eq (a := r14.toInt) (b := 6) rfl rfl c17_5
      refine ok_X5_buildChoice (lv := lv) hW_X5_build (by omega) (by omega) (by omega) (by omega) (by omega) (by omega) (by omega) (by omega) (by omega) (rp_mono b0 (by omega) (by omega)) (rp_mono b1 (by omega) (by omega)) (rp_mono b2 (by omega) (by omega)) (fun r109 r109_0 r109_1 r109_2 r109_3 r109_4 f31 f32 f33 => ?_)
      exact hq r109 r109_0 r109_1 r109_2 r109_3 r109_4 (by omega) (by omega)
    · have f34 : r14.toInt = 7 := i_eq (a := r14.toInt) (b := 7) rfl rfl c17_6
      refine ok_X5_buildLoop (lv := lv) hW_X5_build (by omega) (by omega) (by omega) (by omega) (by omega) (by omega) (by omega) (by omega) (by omega) (rp_mono b0 (by omega) (by omega)) (rp_mono b1 (by omega) (by omega)) (rp_mono b2 (by omega) (by omega)) (fun r119 r119_0 r119_1 r119_2 r119_3 r119_4 f35 f36 f37 => ?_)
      exact hq r119 r119_0 r119_1 r119_2 r119_3 r119_4 (by omega) (by omega)
    · have f38 : r14.toInt = 8 := i_eq (a := r14.toInt) (b := 8) rfl rfl c17_7
      refine ok_X10_valueOf (by omega) (by omega) (fun r130 f39 => ?_)
      refine ok_X5_add (by omega) (by omega) (fun r135 r135_0 r135_1 r135_2 r135_3 r135_4 f40 f41 => ?_)
      refine ok_X10_valueOf (by omega) (by omega) (fun r147 f42 => ?_)
      refine ok_X10_firstOf (by omega) (by omega) (rp_mono b1 (by omega) (by omega)) (fun r156 f43 f44 => ?_)
      intro x165 ex165
      have f45 : x165.toInt = p4.toInt + 1 := i_add (a := p4.toInt) (b := 1) ex165 rfl rfl (by omega) (by omega)
      refine hW_X5_build r156 r135 p3 x165 v_start r135_0 r135_1 r135_2 r135_3 r135_4 v_tree_there v_tree_count v_tree_captures v_tree_ranges v_tree_sort v_tree_end v_tree_before v_tree_last v_tree_value v_tree_low v_tree_high _ (by omega) (by omega) (by omega) (by omega) (by omega) (by omega) (by omega) (by omega) (by omega) (rp_mono b0 (by omega) (by omega)) (rp_mono b1 (by omega) (by omega)) (rp_mono b2 (by omega) (by omega)) (fun r166 r166_0 r166_1 r166_2 r166_3 r166_4 f46 f47 => ?_)
      refine ok_X5_add (by omega) (by omega) (fun r170 r170_0 r170_1 r170_2 r170_3 r170_4 f48 f49 => ?_)
      exact hq r170 r170_0 r170_1 r170_2 r170_3 r170_4 (by omega) (by omega)
    · intro c17_0 c17_1 c17_2 c17_3 c17_4 c17_5 c17_6 c17_7
      have f50 : r14.toInt ≠ 0 := i_ne (a := r14.toInt) (b := 0) rfl rfl c17_0
      have f51 : r14.toInt ≠ 1 := i_ne (a := r14.toInt) (b := 1) rfl rfl c17_1
      have f52 : r14.toInt ≠ 2 := i_ne (a := r14.toInt) (b := 2) rfl rfl c17_2
      have f53 : r14.toInt ≠ 3 := i_ne (a := r14.toInt) (b := 3) rfl rfl c17_3
      have f54 : r14.toInt ≠ 5 := i_ne (a := r14.toInt) (b := 5) rfl rfl c17_4
      have f55 : r14.toInt ≠ 6 := i_ne (a := r14.toInt) (b := 6) rfl rfl c17_5
      have f56 : r14.toInt ≠ 7 := i_ne (a := r14.toInt) (b := 7) rfl rfl c17_6
      have f57 : r14.toInt ≠ 8 := i_ne (a := r14.toInt) (b := 8) rfl rfl c17_7
      exact j_174  (by omega) (by omega) (by omega) (by omega) (by omega) (by omega) (by omega) (by omega)
  · have f58 : 60 < p4.toInt := i_nle (a := p4.toInt) (b := 60) rfl rfl c4
    exact hq p2 v_count v_kinds v_subjects v_nexts v_others (by omega) (by omega)
