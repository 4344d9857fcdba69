set_option maxHeartbeats 4000000 in
theorem ok_X0_addBegin {p1 : Int32} {v_count : Int32} {v_begins : Nat → Int32} {Q : Int32 → (Nat → Int32) → Prop} (a0 : 0 ≤ v_count.toInt) (a1 : v_count.toInt ≤ 256) (hq : ∀ (ov_count : Int32) (ov_begins : Nat → Int32), v_count.toInt ≤ ov_count.toInt → ((p1.toInt ≤ 65535 ∧ v_count.toInt ≤ 255 ∧ ov_count.toInt = v_count.toInt + 1) ∨ (ov_count.toInt = v_count.toInt)) → Q ov_count ov_begins) : w_X0_addBegin p1 v_count v_begins Q := by
  have q_t : (bz true).toInt = 1 := rfl
  have q_f : (bz false).toInt = 0 := rfl
  have q_0 : (0 : Int32).toInt = 0 := rfl
  have q_1 : (1 : Int32).toInt = 1 := rfl
  unfold w_X0_addBegin
  have j_2 : ∀ n_2 : Nat, ∀ (l2_2 : Int32), 0 ≤ l2_2.toInt → l2_2.toInt ≤ v_count.toInt → ((-1) * l2_2.toInt + 2147483648).toNat < n_2 → w_X0_addBegin_2 p1 Q v_count v_begins n_2 l2_2 := by
    intro n_2
    induction n_2 with
    | zero =>
      intro l2_2 f1 f2 hm_2
      exfalso; omega
    | succ n_2 ih_2 =>
      intro l2_2 f1 f2 hm_2
      unfold w_X0_addBegin_2
      unfold w_X0_addBegin_2B
      have j_26 : ((v_count.toInt ≤ l2_2.toInt) ∨ (l2_2.toInt + 1 ≤ v_count.toInt)) → w_X0_addBegin_26 p1 Q l2_2 v_count v_begins := by
        intro f3
        unfold w_X0_addBegin_26
        have j_49 : ∀ (s0_49 : Int32), ((s0_49.toInt = 1 ∧ l2_2.toInt + 1 ≤ v_count.toInt) ∨ (s0_49.toInt = 0)) → w_X0_addBegin_49 p1 Q s0_49 l2_2 v_count v_begins := by
          intro s0_49 f4
          unfold w_X0_addBegin_49
          have j_70 : w_X0_addBegin_70 Q v_count v_begins := by
            unfold w_X0_addBegin_70
            exact hq v_count v_begins (by omega) (by omega)
          refine ⟨fun c51 => ?_, fun c51 => ?_⟩
          · have f5 : s0_49.toInt ≠ 0 := i_ne (a := s0_49.toInt) (b := 0) rfl rfl c51
            exact j_70  
          · have f6 : s0_49.toInt = 0 := i_eq (a := s0_49.toInt) (b := 0) rfl rfl c51
            refine ⟨fun c57 => ?_, fun c57 => ?_⟩
            · have f7 : 65535 < p1.toInt := i_lt (a := 65535) (b := p1.toInt) rfl rfl c57
              exact j_70  
            · have f8 : p1.toInt ≤ 65535 := i_nlt (a := 65535) (b := p1.toInt) rfl rfl c57
              refine ⟨fun c67 => ?_, fun c67 => ?_⟩
              · have f9 : v_count.toInt < 256 := i_lt (a := v_count.toInt) (b := 256) rfl rfl c67
                have j_77 : ∀ n_77 : Nat, ∀ (l4_77 : Int32) (v_begins_77 : Nat → Int32), l2_2.toInt ≤ l4_77.toInt → l4_77.toInt ≤ v_count.toInt → (l4_77.toInt + 2147483649).toNat < n_77 → w_X0_addBegin_77 p1 Q l2_2 v_count n_77 l4_77 v_begins_77 := by
                  intro n_77
                  induction n_77 with
                  | zero =>
                    intro l4_77 v_begins_77 f10 f11 hm_77
                    exfalso; omega
                  | succ n_77 ih_77 =>
                    intro l4_77 v_begins_77 f10 f11 hm_77
                    unfold w_X0_addBegin_77
                    unfold w_X0_addBegin_77B
                    refine ⟨fun c80 => ?_, fun c80 => ?_⟩
                    · have f12 : l4_77.toInt ≤ l2_2.toInt := i_le (a := l4_77.toInt) (b := l2_2.toInt) rfl rfl c80
                      refine ⟨i_in (by omega) (by omega), ?_⟩
                      intro g111 eg111
                      intro x118 ex118
                      have f13 : x118.toInt = v_count.toInt + 1 := i_add (a := v_count.toInt) (b := 1) ex118 rfl rfl (by omega) (by omega)
                      exact hq x118 g111 (by omega) (by omega)
                    · have f14 : l2_2.toInt < l4_77.toInt := i_nle (a := l4_77.toInt) (b := l2_2.toInt) rfl rfl c80
                      intro x96 ex96
                      have f15 : x96.toInt = l4_77.toInt - 1 := i_sub (a := l4_77.toInt) (b := 1) ex96 rfl rfl (by omega) (by omega)
                      refine ⟨i_in (by omega) (by omega), ?_⟩
                      intro x97 ex97
                      refine ⟨i_in (by omega) (by omega), ?_⟩
                      intro g98 eg98
                      intro x99 ex99
                      have f16 : x99.toInt = l4_77.toInt + (-1) := i_add (a := l4_77.toInt) (b := (-1)) ex99 rfl rfl (by omega) (by omega)
                      exact ih_77 x99 g98 (by omega) (by omega) (by have h8_0 := i_rng l4_77; have h8_1 := i_rng x99; omega)
                exact ⟨(v_count.toInt + 2147483649).toNat + 1, j_77   ((v_count.toInt + 2147483649).toNat + 1) v_count v_begins (by omega) (by omega) (by omega)⟩
              · have f17 : 256 ≤ v_count.toInt := i_nlt (a := v_count.toInt) (b := 256) rfl rfl c67
                exact j_70  
        have j_48 : ((v_count.toInt ≤ l2_2.toInt) ∨ (l2_2.toInt + 1 ≤ v_count.toInt)) → w_X0_addBegin_48 p1 Q l2_2 v_count v_begins := by
          intro f18
          unfold w_X0_addBegin_48
          exact j_49 0 (by omega)
        refine ⟨fun c31 => ?_, fun c31 => ?_⟩
        · have f19 : v_count.toInt ≤ l2_2.toInt := i_le (a := v_count.toInt) (b := l2_2.toInt) rfl rfl c31
          exact j_48  (by omega)
        · have f20 : l2_2.toInt < v_count.toInt := i_nle (a := v_count.toInt) (b := l2_2.toInt) rfl rfl c31
          refine ⟨i_in (by omega) (by omega), ?_⟩
          intro x39 ex39
          refine ⟨fun c41 => ?_, fun c41 => ?_⟩
          · have f21 : x39.toInt ≠ p1.toInt := i_ne (a := x39.toInt) (b := p1.toInt) rfl rfl c41
            exact j_48  (by omega)
          · have f22 : x39.toInt = p1.toInt := i_eq (a := x39.toInt) (b := p1.toInt) rfl rfl c41
            exact j_49 1 (by omega)
      refine ⟨fun c7 => ?_, fun c7 => ?_⟩
      · have f23 : v_count.toInt ≤ l2_2.toInt := i_le (a := v_count.toInt) (b := l2_2.toInt) rfl rfl c7
        exact j_26  (by omega)
      · have f24 : l2_2.toInt < v_count.toInt := i_nle (a := v_count.toInt) (b := l2_2.toInt) rfl rfl c7
        refine ⟨i_in (by omega) (by omega), ?_⟩
        intro x15 ex15
        refine ⟨fun c17 => ?_, fun c17 => ?_⟩
        · have f25 : p1.toInt ≤ x15.toInt := i_le (a := p1.toInt) (b := x15.toInt) rfl rfl c17
          exact j_26  (by omega)
        · have f26 : x15.toInt < p1.toInt := i_nle (a := p1.toInt) (b := x15.toInt) rfl rfl c17
          intro x20 ex20
          have f27 : x20.toInt = l2_2.toInt + 1 := i_add (a := l2_2.toInt) (b := 1) ex20 rfl rfl (by omega) (by omega)
          exact ih_2 x20 (by omega) (by omega) (by have h8_0 := i_rng l2_2; have h8_1 := i_rng x20; omega)
  exact ⟨(2147483648 : Int).toNat + 1, j_2   ((2147483648 : Int).toNat + 1) 0 (by omega) (by omega) (by omega)⟩
set_option maxHeartbeats 4000000 in
theorem ok_X0_addRange {p1 : Int32} {p2 : Int32} {p3 : Int32} {v_count : Int32} {v_begins : Nat → Int32} {Q : Int32 → (Nat → Int32) → Prop} (a0 : 0 ≤ v_count.toInt) (a1 : v_count.toInt ≤ 256) (a2 : 0 ≤ p3.toInt) (a3 : p3.toInt ≤ 1) (hq : ∀ (ov_count : Int32) (ov_begins : Nat → Int32), 0 ≤ ov_count.toInt → ov_count.toInt ≤ 256 → v_count.toInt ≤ ov_count.toInt → Q ov_count ov_begins) : w_X0_addRange p1 p2 p3 v_count v_begins Q := by
  have q_t : (bz true).toInt = 1 := rfl
  have q_f : (bz false).toInt = 0 := rfl
  unfold w_X0_addRange
  refine ok_X0_addBegin (by omega) (by omega) (fun r2_0 r2_1 f1 f2 => ?_)
  intro x8 ex8
  refine ok_X0_addBegin (by omega) (by omega) (fun r9_0 r9_1 f3 f4 => ?_)
  have j_54 : ∀ (v_count_54 : Int32) (v_begins_54 : Nat → Int32), 0 ≤ v_count_54.toInt → v_count_54.toInt ≤ 256 → v_count.toInt ≤ v_count_54.toInt → w_X0_addRange_54 p1 p2 p3 Q v_count_54 v_begins_54 := by
    intro v_count_54 v_begins_54 f5 f6 f7
    unfold w_X0_addRange_54
    have j_96 : ∀ (v_count_96 : Int32) (v_begins_96 : Nat → Int32), 0 ≤ v_count_96.toInt → v_count_96.toInt ≤ 256 → v_count.toInt ≤ v_count_96.toInt → w_X0_addRange_96 Q v_count_96 v_begins_96 := by
      intro v_count_96 v_begins_96 f8 f9 f10
      unfold w_X0_addRange_96
      exact hq v_count_96 v_begins_96 (by omega) (by omega) (by omega)
    refine ⟨fun c55 => ?_, fun c55 => ?_⟩
    · have f11 : p3.toInt = 0 := i_eq (a := p3.toInt) (b := 0) rfl rfl c55
      exact j_96 v_count_54 v_begins_54 (by omega) (by omega) (by omega)
    · have f12 : p3.toInt ≠ 0 := i_ne (a := p3.toInt) (b := 0) rfl rfl c55
      refine ⟨fun c61 => ?_, fun c61 => ?_⟩
      · have f13 : 122 < p1.toInt := i_lt (a := 122) (b := p1.toInt) rfl rfl c61
        exact j_96 v_count_54 v_begins_54 (by omega) (by omega) (by omega)
      · have f14 : p1.toInt ≤ 122 := i_nlt (a := 122) (b := p1.toInt) rfl rfl c61
        refine ⟨fun c67 => ?_, fun c67 => ?_⟩
        · have f15 : p2.toInt < 97 := i_lt (a := p2.toInt) (b := 97) rfl rfl c67
          exact j_96 v_count_54 v_begins_54 (by omega) (by omega) (by omega)
        · have f16 : 97 ≤ p2.toInt := i_nlt (a := p2.toInt) (b := 97) rfl rfl c67
          intro x74 ex74
          have f17 : ((x74.toInt = p1.toInt ∧ 97 ≤ p1.toInt) ∨ (x74.toInt = 97 ∧ p1.toInt ≤ 97)) := by have h9 := i_max (a := p1.toInt) (b := 97) ex74 rfl rfl; omega
          intro x79 ex79
          have f18 : x79.toInt = x74.toInt - 32 := i_sub (a := x74.toInt) (b := 32) ex79 rfl rfl (by omega) (by omega)
          refine ok_X0_addBegin (by omega) (by omega) (fun r80_0 r80_1 f19 f20 => ?_)
          intro x87 ex87
          have f21 : ((x87.toInt = p2.toInt ∧ p2.toInt ≤ 122) ∨ (x87.toInt = 122 ∧ 122 ≤ p2.toInt)) := by have h9 := i_min (a := 122) (b := p2.toInt) ex87 rfl rfl; omega
          intro x92 ex92
          have f22 : x92.toInt = x87.toInt - 31 := i_sub (a := x87.toInt) (b := 31) ex92 rfl rfl (by omega) (by omega)
          refine ok_X0_addBegin (by omega) (by omega) (fun r93_0 r93_1 f23 f24 => ?_)
          exact j_96 r93_0 r93_1 (by omega) (by omega) (by omega)
  refine ⟨fun c13 => ?_, fun c13 => ?_⟩
  · have f25 : p3.toInt = 0 := i_eq (a := p3.toInt) (b := 0) rfl rfl c13
    exact j_54 r9_0 r9_1 (by omega) (by omega) (by omega)
  · have f26 : p3.toInt ≠ 0 := i_ne (a := p3.toInt) (b := 0) rfl rfl c13
    refine ⟨fun c19 => ?_, fun c19 => ?_⟩
    · have f27 : 90 < p1.toInt := i_lt (a := 90) (b := p1.toInt) rfl rfl c19
      exact j_54 r9_0 r9_1 (by omega) (by omega) (by omega)
    · have f28 : p1.toInt ≤ 90 := i_nlt (a := 90) (b := p1.toInt) rfl rfl c19
      refine ⟨fun c25 => ?_, fun c25 => ?_⟩
      · have f29 : p2.toInt < 65 := i_lt (a := p2.toInt) (b := 65) rfl rfl c25
        exact j_54 r9_0 r9_1 (by omega) (by omega) (by omega)
      · have f30 : 65 ≤ p2.toInt := i_nlt (a := p2.toInt) (b := 65) rfl rfl c25
        intro x32 ex32
        have f31 : ((x32.toInt = p1.toInt ∧ 65 ≤ p1.toInt) ∨ (x32.toInt = 65 ∧ p1.toInt ≤ 65)) := by have h9 := i_max (a := p1.toInt) (b := 65) ex32 rfl rfl; omega
        intro x37 ex37
        have f32 : x37.toInt = x32.toInt + 32 := i_add (a := x32.toInt) (b := 32) ex37 rfl rfl (by omega) (by omega)
        refine ok_X0_addBegin (by omega) (by omega) (fun r38_0 r38_1 f33 f34 => ?_)
        intro x45 ex45
        have f35 : ((x45.toInt = p2.toInt ∧ p2.toInt ≤ 90) ∨ (x45.toInt = 90 ∧ 90 ≤ p2.toInt)) := by have h9 := i_min (a := 90) (b := p2.toInt) ex45 rfl rfl; omega
        intro x50 ex50
        have f36 : x50.toInt = x45.toInt + 33 := i_add (a := x45.toInt) (b := 33) ex50 rfl rfl (by omega) (by omega)
        refine ok_X0_addBegin (by omega) (by omega) (fun r51_0 r51_1 f37 f38 => ?_)
        exact j_54 r51_0 r51_1 (by omega) (by omega) (by omega)
set_option maxHeartbeats 4000000 in
theorem ok_X0_addParts {p2 : Int32} {v_count : Int32} {v_begins : Nat → Int32} {a1_count : Int32} {a1_ranges : Int32} {a1_sort : Nat → Int32} {a1_parts : Nat → Int32} {a1_low : Nat → Int32} {a1_high : Nat → Int32} {a1_withinCase : Nat → Bool} {a1_rangeBegin : Nat → Int32} {a1_rangeEnd : Nat → Int32} {Q : Int32 → (Nat → Int32) → Prop} (a0 : 0 ≤ v_count.toInt) (a1 : v_count.toInt ≤ 256) (a2 : 0 ≤ a1_count.toInt) (a3 : a1_count.toInt ≤ 256) (a4 : 0 ≤ a1_ranges.toInt) (a5 : a1_ranges.toInt ≤ 512) (hq : ∀ (ov_count : Int32) (ov_begins : Nat → Int32), 0 ≤ ov_count.toInt + 1 → 0 ≤ ov_count.toInt → ov_count.toInt ≤ 256 → v_count.toInt ≤ ov_count.toInt → Q ov_count ov_begins) : w_X0_addParts p2 v_count v_begins a1_count a1_ranges a1_sort a1_parts a1_low a1_high a1_withinCase a1_rangeBegin a1_rangeEnd Q := by
  have q_t : (bz true).toInt = 1 := rfl
  have q_f : (bz false).toInt = 0 := rfl
  have q_0 : (0 : Int32).toInt = 0 := rfl
  unfold w_X0_addParts
  have j_2 : ∀ n_2 : Nat, ∀ (l3_2 : Int32) (v_count_2 : Int32) (v_begins_2 : Nat → Int32), 0 ≤ l3_2.toInt → v_count.toInt ≤ v_count_2.toInt → v_count_2.toInt ≤ 256 → ((-1) * l3_2.toInt + 2147483648).toNat < n_2 → w_X0_addParts_2 p2 a1_count a1_ranges a1_sort a1_parts a1_low a1_high a1_withinCase a1_rangeBegin a1_rangeEnd Q n_2 l3_2 v_count_2 v_begins_2 := by
    intro n_2
    induction n_2 with
    | zero =>
      intro l3_2 v_count_2 v_begins_2 f1 f2 f3 hm_2
      exfalso; omega
    | succ n_2 ih_2 =>
      intro l3_2 v_count_2 v_begins_2 f1 f2 f3 hm_2
      unfold w_X0_addParts_2
      unfold w_X0_addParts_2B
      refine ok_X10_partsOf (by omega) (by omega) (fun r5 f4 => ?_)
      refine ⟨fun c8 => ?_, fun c8 => ?_⟩
      · have f5 : r5.toInt ≤ l3_2.toInt := i_le (a := r5.toInt) (b := l3_2.toInt) rfl rfl c8
        exact hq v_count_2 v_begins_2 (by omega) (by omega) (by omega) (by omega)
      · have f6 : l3_2.toInt < r5.toInt := i_nle (a := r5.toInt) (b := l3_2.toInt) rfl rfl c8
        refine ok_X10_partBegin (by omega) (by omega) (by omega) (by omega) (fun r15 => ?_)
        refine ok_X10_partEnd (by omega) (by omega) (by omega) (by omega) (fun r21 => ?_)
        refine ok_X10_isWithinCase (by omega) (by omega) (fun r26 f7 => ?_)
        refine ok_X0_addRange (by omega) (by omega) (by omega) (by omega) (fun r29_0 r29_1 f8 f9 f10 => ?_)
        intro x32 ex32
        have f11 : x32.toInt = l3_2.toInt + 1 := i_add (a := l3_2.toInt) (b := 1) ex32 rfl rfl (by omega) (by have h8_0 := i_rng a1_count; have h8_1 := i_rng l3_2; have h8_2 := i_rng p2; have h8_3 := i_rng r26; have h8_4 := i_rng r5; omega)
        exact ih_2 x32 r29_0 r29_1 (by omega) (by omega) (by omega) (by have h8_0 := i_rng l3_2; have h8_1 := i_rng x32; omega)
  exact ⟨(2147483648 : Int).toNat + 1, j_2   ((2147483648 : Int).toNat + 1) 0 v_count v_begins (by omega) (by omega) (by omega) (by omega)⟩
set_option maxHeartbeats 4000000 in
theorem ok_X0_addTree {v_count : Int32} {v_begins : Nat → Int32} {a1_count : Int32} {a1_ranges : Int32} {a1_sort : Nat → Int32} {a1_parts : Nat → Int32} {a1_value : Nat → Int32} {a1_low : Nat → Int32} {a1_high : Nat → Int32} {a1_withinCase : Nat → Bool} {a1_rangeBegin : Nat → Int32} {a1_rangeEnd : Nat → Int32} {Q : Int32 → (Nat → Int32) → Prop} (a0 : 0 ≤ v_count.toInt) (a1 : v_count.toInt ≤ 256) (a2 : 0 ≤ a1_count.toInt) (a3 : a1_count.toInt ≤ 256) (a4 : 0 ≤ a1_ranges.toInt) (a5 : a1_ranges.toInt ≤ 512) (hq : ∀ (ov_count : Int32) (ov_begins : Nat → Int32), 0 ≤ ov_count.toInt + 1 → 0 ≤ ov_count.toInt → ov_count.toInt ≤ 256 → v_count.toInt ≤ ov_count.toInt → Q ov_count ov_begins) : w_X0_addTree v_count v_begins a1_count a1_ranges a1_sort a1_parts a1_value a1_low a1_high a1_withinCase a1_rangeBegin a1_rangeEnd Q := by
  have q_t : (bz true).toInt = 1 := rfl
  have q_f : (bz false).toInt = 0 := rfl
  have q_0 : (0 : Int32).toInt = 0 := rfl
  have q_10 : (10 : Int32).toInt = 10 := rfl
  unfold w_X0_addTree
  have j_2 : ∀ n_2 : Nat, ∀ (l2_2 : Int32) (v_count_2 : Int32) (v_begins_2 : Nat → Int32), 0 ≤ l2_2.toInt → l2_2.toInt ≤ a1_count.toInt → v_count.toInt ≤ v_count_2.toInt → v_count_2.toInt ≤ 256 → ((-1) * l2_2.toInt + 2147483648).toNat < n_2 → w_X0_addTree_2 a1_count a1_ranges a1_sort a1_parts a1_value a1_low a1_high a1_withinCase a1_rangeBegin a1_rangeEnd Q n_2 l2_2 v_count_2 v_begins_2 := by
    intro n_2
    induction n_2 with
    | zero =>
      intro l2_2 v_count_2 v_begins_2 f1 f2 f3 f4 hm_2
      exfalso; omega
    | succ n_2 ih_2 =>
      intro l2_2 v_count_2 v_begins_2 f1 f2 f3 f4 hm_2
      unfold w_X0_addTree_2
      unfold w_X0_addTree_2B
      refine ok_X10_has (by omega) (by omega) (fun r4 f5 => ?_)
      refine ⟨fun c7 => ?_, fun c7 => ?_⟩
      · have f6 : r4.toInt = 0 := i_eq (a := r4.toInt) (b := 0) rfl rfl c7
        exact hq v_count_2 v_begins_2 (by omega) (by omega) (by omega) (by omega)
      · have f7 : r4.toInt ≠ 0 := i_ne (a := r4.toInt) (b := 0) rfl rfl c7
        refine ok_X10_sortOf (by omega) (by omega) (fun r12 f8 => ?_)
        have j_83 : ∀ (v_count_83 : Int32) (v_begins_83 : Nat → Int32), 0 ≤ v_count_83.toInt → v_count_83.toInt ≤ 256 → v_count.toInt ≤ v_count_83.toInt → v_count_2.toInt ≤ v_count_83.toInt → w_X0_addTree_83 Q (w_X0_addTree_2 a1_count a1_ranges a1_sort a1_parts a1_value a1_low a1_high a1_withinCase a1_rangeBegin a1_rangeEnd Q n_2) l2_2 v_count_83 v_begins_83 := by
          intro v_count_83 v_begins_83 f9 f10 f11 f12
          unfold w_X0_addTree_83
          intro x83 ex83
          have f13 : x83.toInt = l2_2.toInt + 1 := i_add (a := l2_2.toInt) (b := 1) ex83 rfl rfl (by omega) (by omega)
          exact ih_2 x83 v_count_83 v_begins_83 (by omega) (by omega) (by omega) (by omega) (by have h8_0 := i_rng l2_2; have h8_1 := i_rng x83; omega)
        refine ⟨fun c15_0 => ?_, fun c15_1 => ?_, fun c15_2 => ?_, ?_⟩
        · have f14 : r12.toInt = 0 := i_eq (a := r12.toInt) (b := 0) rfl rfl c15_0
          refine ok_X10_valueOf (by omega) (by omega) (fun r43 f15 => ?_)
          refine ok_X10_valueOf (by omega) (by omega) (fun r48 f16 => ?_)
          refine ok_X10_isWithinCase (by omega) (by omega) (fun r53 f17 => ?_)
          refine ok_X0_addRange (by omega) (by omega) (by omega) (by omega) (fun r56_0 r56_1 f18 f19 f20 => ?_)
          exact j_83 r56_0 r56_1 (by omega) (by omega) (by omega) (by omega)
        · have f21 : r12.toInt = 1 := i_eq (a := r12.toInt) (b := 1) rfl rfl c15_1
          refine ok_X0_addRange (by omega) (by omega) (by omega) (by omega) (fun r68_0 r68_1 f22 f23 f24 => ?_)
          exact j_83 r68_0 r68_1 (by omega) (by omega) (by omega) (by omega)
        · have f25 : r12.toInt = 2 := i_eq (a := r12.toInt) (b := 2) rfl rfl c15_2
          refine ok_X0_addParts (by omega) (by omega) (by omega) (by omega) (by omega) (by omega) (fun r77_0 r77_1 f26 f27 f28 f29 => ?_)
          exact j_83 r77_0 r77_1 (by omega) (by omega) (by omega) (by omega)
        · intro c15_0 c15_1 c15_2
          have f30 : r12.toInt ≠ 0 := i_ne (a := r12.toInt) (b := 0) rfl rfl c15_0
          have f31 : r12.toInt ≠ 1 := i_ne (a := r12.toInt) (b := 1) rfl rfl c15_1
          have f32 : r12.toInt ≠ 2 := i_ne (a := r12.toInt) (b := 2) rfl rfl c15_2
          exact j_83 v_count_2 v_begins_2 (by omega) (by omega) (by omega) (by omega)
  exact ⟨(2147483648 : Int).toNat + 1, j_2   ((2147483648 : Int).toNat + 1) 0 v_count v_begins (by omega) (by omega) (by omega) (by omega) (by omega)⟩
set_option maxHeartbeats 4000000 in
theorem ok_X0_gather {v_begins : Nat → Int32} {a1_count : Int32} {a1_ranges : Int32} {a1_sort : Nat → Int32} {a1_parts : Nat → Int32} {a1_value : Nat → Int32} {a1_low : Nat → Int32} {a1_high : Nat → Int32} {a1_withinCase : Nat → Bool} {a1_rangeBegin : Nat → Int32} {a1_rangeEnd : Nat → Int32} {Q : Int32 → (Nat → Int32) → Prop} (a0 : 0 ≤ a1_count.toInt) (a1 : a1_count.toInt ≤ 256) (a2 : 0 ≤ a1_ranges.toInt) (a3 : a1_ranges.toInt ≤ 512) (hq : ∀ (ov_count : Int32) (ov_begins : Nat → Int32), 0 ≤ ov_count.toInt + 1 → 0 ≤ ov_count.toInt → ov_count.toInt ≤ 256 → 1 ≤ ov_count.toInt → Q ov_count ov_begins) : w_X0_gather v_begins a1_count a1_ranges a1_sort a1_parts a1_value a1_low a1_high a1_withinCase a1_rangeBegin a1_rangeEnd Q := by
  have q_t : (bz true).toInt = 1 := rfl
  have q_f : (bz false).toInt = 0 := rfl
  have q_1 : (1 : Int32).toInt = 1 := rfl
  unfold w_X0_gather
  intro g11 eg11
  refine ok_X0_addTree (by omega) (by omega) (by omega) (by omega) (by omega) (by omega) (fun r14_0 r14_1 f1 f2 f3 f4 => ?_)
  refine ok_X0_addTree (by omega) (by omega) (by omega) (by omega) (by omega) (by omega) (fun r23_0 r23_1 f5 f6 f7 f8 => ?_)
  exact hq r23_0 r23_1 (by omega) (by omega) (by omega) (by omega)
set_option maxHeartbeats 4000000 in
theorem ok_X0_classOf {p1 : Int32} {v_count : Int32} {v_begins : Nat → Int32} {Q : Int32 → Prop} (a0 : 0 ≤ v_count.toInt) (a1 : v_count.toInt ≤ 256) (hq : ∀ (r : Int32), 0 ≤ r.toInt + 1 → 0 ≤ r.toInt → r.toInt ≤ v_count.toInt → r.toInt ≤ v_count.toInt + 1 → 0 ≤ r.toInt + 2 → ((v_count.toInt ≤ r.toInt + 1) ∨ (r.toInt + 2 ≤ v_count.toInt)) → Q r) : w_X0_classOf p1 v_count v_begins Q := by
  have q_t : (bz true).toInt = 1 := rfl
  have q_f : (bz false).toInt = 0 := rfl
  have q_0 : (0 : Int32).toInt = 0 := rfl
  have q_1 : (1 : Int32).toInt = 1 := rfl
  unfold w_X0_classOf
  have j_4 : ∀ n_4 : Nat, ∀ (l2_4 : Int32) (l3_4 : Int32), 1 ≤ l3_4.toInt → l3_4.toInt ≤ v_count.toInt + 1 → l3_4.toInt = l2_4.toInt + 1 → ((-1) * l2_4.toInt + 2147483648).toNat < n_4 → w_X0_classOf_4 p1 v_count v_begins Q n_4 l2_4 l3_4 := by
    intro n_4
    induction n_4 with
    | zero =>
      intro l2_4 l3_4 f1 f2 f3 hm_4
      exfalso; omega
    | succ n_4 ih_4 =>
      intro l2_4 l3_4 f1 f2 f3 hm_4
      unfold w_X0_classOf_4
      unfold w_X0_classOf_4B
      have j_30 : ((v_count.toInt ≤ l3_4.toInt) ∨ (l3_4.toInt + 1 ≤ v_count.toInt)) → w_X0_classOf_30 Q l2_4 := by
        intro f4
        unfold w_X0_classOf_30
        exact hq l2_4 (by omega) (by omega) (by omega) (by omega) (by omega) (by omega)
      refine ⟨fun c9 => ?_, fun c9 => ?_⟩
      · have f5 : v_count.toInt ≤ l3_4.toInt := i_le (a := v_count.toInt) (b := l3_4.toInt) rfl rfl c9
        exact j_30  (by omega)
      · have f6 : l3_4.toInt < v_count.toInt := i_nle (a := v_count.toInt) (b := l3_4.toInt) rfl rfl c9
        refine ⟨i_in (by omega) (by omega), ?_⟩
        intro x17 ex17
        refine ⟨fun c19 => ?_, fun c19 => ?_⟩
        · have f7 : p1.toInt < x17.toInt := i_lt (a := p1.toInt) (b := x17.toInt) rfl rfl c19
          exact j_30  (by omega)
        · have f8 : x17.toInt ≤ p1.toInt := i_nlt (a := p1.toInt) (b := x17.toInt) rfl rfl c19
          intro x24 ex24
          have f9 : x24.toInt = l3_4.toInt + 1 := i_add (a := l3_4.toInt) (b := 1) ex24 rfl rfl (by omega) (by omega)
          exact ih_4 l3_4 x24 (by omega) (by omega) (by omega) (by have h8_0 := i_rng l2_4; have h8_1 := i_rng l3_4; omega)
  exact ⟨(2147483648 : Int).toNat + 1, j_4   ((2147483648 : Int).toNat + 1) 0 1 (by omega) (by omega) (by omega) (by omega)⟩
set_option maxHeartbeats 4000000 in
theorem ok_X5_subjectOf {p1 : Int32} {v_count : Int32} {v_subjects : Nat → Int32} {Q : Int32 → Prop} (a0 : 0 ≤ v_count.toInt) (a1 : v_count.toInt ≤ 512) (hq : ∀ (r : Int32), ((0 ≤ p1.toInt ∧ p1.toInt + 1 ≤ v_count.toInt) ∨ (r.toInt + 1 = 0)) → Q r) : w_X5_subjectOf p1 v_count v_subjects Q := by
  have q_t : (bz true).toInt = 1 := rfl
  have q_f : (bz false).toInt = 0 := rfl
  have q_m1 : ((-1) : Int32).toInt = (-1) := rfl
  unfold w_X5_subjectOf
  have j_22 : ∀ (s0_22 : Int32), ((0 ≤ p1.toInt ∧ p1.toInt + 1 ≤ v_count.toInt) ∨ (s0_22.toInt + 1 = 0)) → w_X5_subjectOf_22 Q s0_22 := by
    intro s0_22 f1
    unfold w_X5_subjectOf_22
    exact hq s0_22 (by omega)
  have j_21 : ((p1.toInt + 1 ≤ 0) ∨ (0 ≤ p1.toInt ∧ v_count.toInt ≤ p1.toInt)) → w_X5_subjectOf_21 Q := by
    intro f2
    unfold w_X5_subjectOf_21
    exact j_22 (-1) (by omega)
  refine ⟨fun c1 => ?_, fun c1 => ?_⟩
  · have f3 : p1.toInt < 0 := i_lt (a := p1.toInt) (b := 0) rfl rfl c1
    exact j_21  (by omega)
  · have f4 : 0 ≤ p1.toInt := i_nlt (a := p1.toInt) (b := 0) rfl rfl c1
    refine ⟨fun c9 => ?_, fun c9 => ?_⟩
    · have f5 : v_count.toInt ≤ p1.toInt := i_le (a := v_count.toInt) (b := p1.toInt) rfl rfl c9
      exact j_21  (by omega)
    · have f6 : p1.toInt < v_count.toInt := i_nle (a := v_count.toInt) (b := p1.toInt) rfl rfl c9
      refine ⟨i_in (by omega) (by omega), ?_⟩
      intro x17 ex17
      exact j_22 x17 (by omega)
set_option maxHeartbeats 4000000 in
theorem ok_X5_takes {p1 : Int32} {p2 : Int32} {v_count : Int32} {v_subjects : Nat → Int32} {v_tree_count : Int32} {v_tree_ranges : Int32} {v_tree_sort : Nat → Int32} {v_tree_value : Nat → Int32} {v_tree_low : Nat → Int32} {v_tree_high : Nat → Int32} {v_tree_withinCase : Nat → Bool} {v_tree_rangeBegin : Nat → Int32} {v_tree_rangeEnd : Nat → Int32} {Q : Int32 → Prop} (a0 : 0 ≤ v_count.toInt) (a1 : v_count.toInt ≤ 512) (a2 : 0 ≤ v_tree_count.toInt) (a3 : v_tree_count.toInt ≤ 256) (a4 : 0 ≤ v_tree_ranges.toInt) (a5 : v_tree_ranges.toInt ≤ 512) (hq : ∀ (r : Int32), 0 ≤ r.toInt → r.toInt ≤ 1 → Q r) : w_X5_takes p1 p2 v_count v_subjects v_tree_count v_tree_ranges v_tree_sort v_tree_value v_tree_low v_tree_high v_tree_withinCase v_tree_rangeBegin v_tree_rangeEnd Q := by
  have q_t : (bz true).toInt = 1 := rfl
  have q_f : (bz false).toInt = 0 := rfl
  unfold w_X5_takes
  refine ok_X5_subjectOf (by omega) (by omega) (fun r6 f1 => ?_)
  refine ok_X10_takes (by omega) (by omega) (by omega) (by omega) (fun r10 f2 f3 => ?_)
  refine ⟨i_01 (by omega) (by omega), ?_⟩
  exact hq r10 (by omega) (by omega)
set_option maxHeartbeats 4000000 in
theorem ok_X5_has {p1 : Int32} {v_count : Int32} {Q : Int32 → Prop} (a0 : 0 ≤ v_count.toInt) (a1 : v_count.toInt ≤ 512) (hq : ∀ (r : Int32), ((r.toInt = 1 ∧ 0 ≤ p1.toInt ∧ p1.toInt + 1 ≤ v_count.toInt) ∨ (r.toInt = 0)) → Q r) : w_X5_has p1 v_count Q := by
  have q_t : (bz true).toInt = 1 := rfl
  have q_f : (bz false).toInt = 0 := rfl
  have q_0 : (0 : Int32).toInt = 0 := rfl
  have q_1 : (1 : Int32).toInt = 1 := rfl
  unfold w_X5_has
  have j_17 : ∀ (s0_17 : Int32), ((s0_17.toInt = 1 ∧ 0 ≤ p1.toInt ∧ p1.toInt + 1 ≤ v_count.toInt) ∨ (s0_17.toInt = 0)) → w_X5_has_17 Q s0_17 := by
    intro s0_17 f1
    unfold w_X5_has_17
    refine ⟨i_01 (by omega) (by omega), ?_⟩
    exact hq s0_17 (by omega)
  have j_16 : ((p1.toInt + 1 ≤ 0) ∨ (0 ≤ p1.toInt ∧ v_count.toInt ≤ p1.toInt)) → w_X5_has_16 Q := by
    intro f2
    unfold w_X5_has_16
    exact j_17 0 (by omega)
  refine ⟨fun c1 => ?_, fun c1 => ?_⟩
  · have f3 : p1.toInt < 0 := i_lt (a := p1.toInt) (b := 0) rfl rfl c1
    exact j_16  (by omega)
  · have f4 : 0 ≤ p1.toInt := i_nlt (a := p1.toInt) (b := 0) rfl rfl c1
    refine ⟨fun c9 => ?_, fun c9 => ?_⟩
    · have f5 : v_count.toInt ≤ p1.toInt := i_le (a := v_count.toInt) (b := p1.toInt) rfl rfl c9
      exact j_16  (by omega)
    · have f6 : p1.toInt < v_count.toInt := i_nle (a := v_count.toInt) (b := p1.toInt) rfl rfl c9
      exact j_17 1 (by omega)
set_option maxHeartbeats 4000000 in
theorem ok_X5_kindOf {p1 : Int32} {v_count : Int32} {v_kinds : Nat → Int32} {Q : Int32 → Prop} (a0 : 0 ≤ v_count.toInt) (a1 : v_count.toInt ≤ 512) (hq : ∀ (r : Int32), ((0 ≤ p1.toInt ∧ p1.toInt + 1 ≤ v_count.toInt) ∨ (r.toInt = 6)) → Q r) : w_X5_kindOf p1 v_count v_kinds Q := by
  have q_t : (bz true).toInt = 1 := rfl
  have q_f : (bz false).toInt = 0 := rfl
  have q_6 : (6 : Int32).toInt = 6 := rfl
  unfold w_X5_kindOf
  have j_23 : ∀ (s0_23 : Int32), ((0 ≤ p1.toInt ∧ p1.toInt + 1 ≤ v_count.toInt) ∨ (s0_23.toInt = 6)) → w_X5_kindOf_23 Q s0_23 := by
    intro s0_23 f1
    unfold w_X5_kindOf_23
    exact hq s0_23 (by omega)
  have j_21 : ((p1.toInt + 1 ≤ 0) ∨ (0 ≤ p1.toInt ∧ v_count.toInt ≤ p1.toInt)) → w_X5_kindOf_21 Q := by
    intro f2
    unfold w_X5_kindOf_21
    exact j_23 6 (by omega)
  refine ⟨fun c1 => ?_, fun c1 => ?_⟩
  · have f3 : p1.toInt < 0 := i_lt (a := p1.toInt) (b := 0) rfl rfl c1
    exact j_21  (by omega)
  · have f4 : 0 ≤ p1.toInt := i_nlt (a := p1.toInt) (b := 0) rfl rfl c1
    refine ⟨fun c9 => ?_, fun c9 => ?_⟩
    · have f5 : v_count.toInt ≤ p1.toInt := i_le (a := v_count.toInt) (b := p1.toInt) rfl rfl c9
      exact j_21  (by omega)
    · have f6 : p1.toInt < v_count.toInt := i_nle (a := v_count.toInt) (b := p1.toInt) rfl rfl c9
      refine ⟨i_in (by omega) (by omega), ?_⟩
      intro x17 ex17
      exact j_23 x17 (by omega)
set_option maxHeartbeats 4000000 in
theorem ok_X5_nextOf {p1 : Int32} {v_count : Int32} {v_nexts : Nat → Int32} {Q : Int32 → Prop} (a0 : 0 ≤ v_count.toInt) (a1 : v_count.toInt ≤ 512) (hq : ∀ (r : Int32), ((0 ≤ p1.toInt ∧ p1.toInt + 1 ≤ v_count.toInt) ∨ (r.toInt + 1 = 0)) → Q r) : w_X5_nextOf p1 v_count v_nexts Q := by
  have q_t : (bz true).toInt = 1 := rfl
  have q_f : (bz false).toInt = 0 := rfl
  have q_m1 : ((-1) : Int32).toInt = (-1) := rfl
  unfold w_X5_nextOf
  have j_22 : ∀ (s0_22 : Int32), ((0 ≤ p1.toInt ∧ p1.toInt + 1 ≤ v_count.toInt) ∨ (s0_22.toInt + 1 = 0)) → w_X5_nextOf_22 Q s0_22 := by
    intro s0_22 f1
    unfold w_X5_nextOf_22
    exact hq s0_22 (by omega)
  have j_21 : ((p1.toInt + 1 ≤ 0) ∨ (0 ≤ p1.toInt ∧ v_count.toInt ≤ p1.toInt)) → w_X5_nextOf_21 Q := by
    intro f2
    unfold w_X5_nextOf_21
    exact j_22 (-1) (by omega)
  refine ⟨fun c1 => ?_, fun c1 => ?_⟩
  · have f3 : p1.toInt < 0 := i_lt (a := p1.toInt) (b := 0) rfl rfl c1
    exact j_21  (by omega)
  · have f4 : 0 ≤ p1.toInt := i_nlt (a := p1.toInt) (b := 0) rfl rfl c1
    refine ⟨fun c9 => ?_, fun c9 => ?_⟩
    · have f5 : v_count.toInt ≤ p1.toInt := i_le (a := v_count.toInt) (b := p1.toInt) rfl rfl c9
      exact j_21  (by omega)
    · have f6 : p1.toInt < v_count.toInt := i_nle (a := v_count.toInt) (b := p1.toInt) rfl rfl c9
      refine ⟨i_in (by omega) (by omega), ?_⟩
      intro x17 ex17
      exact j_22 x17 (by omega)
set_option maxHeartbeats 4000000 in
theorem ok_X5_otherOf {p1 : Int32} {v_count : Int32} {v_others : Nat → Int32} {Q : Int32 → Prop} (a0 : 0 ≤ v_count.toInt) (a1 : v_count.toInt ≤ 512) (hq : ∀ (r : Int32), ((0 ≤ p1.toInt ∧ p1.toInt + 1 ≤ v_count.toInt) ∨ (r.toInt + 1 = 0)) → Q r) : w_X5_otherOf p1 v_count v_others Q := by
  have q_t : (bz true).toInt = 1 := rfl
  have q_f : (bz false).toInt = 0 := rfl
  have q_m1 : ((-1) : Int32).toInt = (-1) := rfl
  unfold w_X5_otherOf
  have j_22 : ∀ (s0_22 : Int32), ((0 ≤ p1.toInt ∧ p1.toInt + 1 ≤ v_count.toInt) ∨ (s0_22.toInt + 1 = 0)) → w_X5_otherOf_22 Q s0_22 := by
    intro s0_22 f1
    unfold w_X5_otherOf_22
    exact hq s0_22 (by omega)
  have j_21 : ((p1.toInt + 1 ≤ 0) ∨ (0 ≤ p1.toInt ∧ v_count.toInt ≤ p1.toInt)) → w_X5_otherOf_21 Q := by
    intro f2
    unfold w_X5_otherOf_21
    exact j_22 (-1) (by omega)
  refine ⟨fun c1 => ?_, fun c1 => ?_⟩
  · have f3 : p1.toInt < 0 := i_lt (a := p1.toInt) (b := 0) rfl rfl c1
    exact j_21  (by omega)
  · have f4 : 0 ≤ p1.toInt := i_nlt (a := p1.toInt) (b := 0) rfl rfl c1
    refine ⟨fun c9 => ?_, fun c9 => ?_⟩
    · have f5 : v_count.toInt ≤ p1.toInt := i_le (a := v_count.toInt) (b := p1.toInt) rfl rfl c9
      exact j_21  (by omega)
    · have f6 : p1.toInt < v_count.toInt := i_nle (a := v_count.toInt) (b := p1.toInt) rfl rfl c9
      refine ⟨i_in (by omega) (by omega), ?_⟩
      intro x17 ex17
      exact j_22 x17 (by omega)
set_option maxHeartbeats 4000000 in
theorem ok_X5_add {p1 : Int32} {p2 : Int32} {p3 : Int32} {p4 : Int32} {v_count : Int32} {v_kinds : Nat → Int32} {v_subjects : Nat → Int32} {v_nexts : Nat → Int32} {v_others : Nat → Int32} {Q : Int32 → Int32 → (Nat → Int32) → (Nat → Int32) → (Nat → Int32) → (Nat → Int32) → Prop} (a0 : 0 ≤ v_count.toInt) (a1 : v_count.toInt ≤ 512) (hq : ∀ (r : Int32) (ov_count : Int32) (ov_kinds : Nat → Int32) (ov_subjects : Nat → Int32) (ov_nexts : Nat → Int32) (ov_others : Nat → Int32), v_count.toInt ≤ ov_count.toInt → ((r.toInt = v_count.toInt ∧ v_count.toInt ≤ 511 ∧ ov_count.toInt = v_count.toInt + 1) ∨ (r.toInt = p3.toInt ∧ ov_count.toInt = v_count.toInt ∧ 512 ≤ v_count.toInt)) → Q r ov_count ov_kinds ov_subjects ov_nexts ov_others) : w_X5_add p1 p2 p3 p4 v_count v_kinds v_subjects v_nexts v_others Q := by
  have q_t : (bz true).toInt = 1 := rfl
  have q_f : (bz false).toInt = 0 := rfl
  unfold w_X5_add
  refine ⟨fun c7 => ?_, fun c7 => ?_⟩
  · have f1 : v_count.toInt < 512 := i_lt (a := v_count.toInt) (b := 512) rfl rfl c7
    intro x24 ex24
    have f2 : x24.toInt = v_count.toInt + 1 := i_add (a := v_count.toInt) (b := 1) ex24 rfl rfl (by omega) (by omega)
    refine ⟨i_in (by omega) (by omega), ?_⟩
    intro g35 eg35
    refine ⟨i_in (by omega) (by omega), ?_⟩
    intro g43 eg43
    refine ⟨i_in (by omega) (by omega), ?_⟩
    intro g51 eg51
    refine ⟨i_in (by omega) (by omega), ?_⟩
    intro g60 eg60
    exact hq v_count x24 g35 g43 g51 g60 (by omega) (by omega)
  · have f3 : 512 ≤ v_count.toInt := i_nlt (a := v_count.toInt) (b := 512) rfl rfl c7
    exact hq p3 v_count v_kinds v_subjects v_nexts v_others (by omega) (by omega)
set_option maxHeartbeats 4000000 in
theorem ok_X5_aim {p1 : Int32} {p2 : Int32} {p3 : Int32} {p4 : Int32} {v_count : Int32} {v_nexts : Nat → Int32} {v_others : Nat → Int32} {Q : (Nat → Int32) → (Nat → Int32) → Prop} (a0 : 0 ≤ v_count.toInt) (a1 : v_count.toInt ≤ 512) (a2 : 0 ≤ p4.toInt) (a3 : p4.toInt ≤ 1) (hq : ∀ (ov_nexts : Nat → Int32) (ov_others : Nat → Int32), Q ov_nexts ov_others) : w_X5_aim p1 p2 p3 p4 v_count v_nexts v_others Q := by
  have q_t : (bz true).toInt = 1 := rfl
  have q_f : (bz false).toInt = 0 := rfl
  unfold w_X5_aim
  have j_44 : ∀ (v_nexts_44 : Nat → Int32) (v_others_44 : Nat → Int32), ((p1.toInt + 1 ≤ 0) ∨ (0 ≤ p1.toInt ∧ v_count.toInt ≤ p1.toInt) ∨ (0 ≤ p1.toInt ∧ p1.toInt + 1 ≤ v_count.toInt)) → w_X5_aim_44 Q v_nexts_44 v_others_44 := by
    intro v_nexts_44 v_others_44 f1
    unfold w_X5_aim_44
    exact hq v_nexts_44 v_others_44 
  refine ⟨fun c1 => ?_, fun c1 => ?_⟩
  · have f2 : p1.toInt < 0 := i_lt (a := p1.toInt) (b := 0) rfl rfl c1
    exact j_44 v_nexts v_others (by omega)
  · have f3 : 0 ≤ p1.toInt := i_nlt (a := p1.toInt) (b := 0) rfl rfl c1
    refine ⟨fun c9 => ?_, fun c9 => ?_⟩
    · have f4 : v_count.toInt ≤ p1.toInt := i_le (a := v_count.toInt) (b := p1.toInt) rfl rfl c9
      exact j_44 v_nexts v_others (by omega)
    · have f5 : p1.toInt < v_count.toInt := i_nle (a := v_count.toInt) (b := p1.toInt) rfl rfl c9
      have j_27 : ∀ (s0_27 : Int32), ((s0_27.toInt = p2.toInt ∧ p4.toInt = 0) ∨ (s0_27.toInt = p3.toInt)) → w_X5_aim_27 p1 p2 p3 p4 Q s0_27 p1 v_nexts v_others := by
        intro s0_27 f6
        unfold w_X5_aim_27
        refine ⟨i_in (by omega) (by omega), ?_⟩
        intro g27 eg27
        have j_43 : ∀ (s0_43 : Int32), ((s0_43.toInt = p3.toInt ∧ p4.toInt = 0) ∨ (s0_43.toInt = p2.toInt)) → w_X5_aim_43 Q s0_43 p1 g27 v_others := by
          intro s0_43 f7
          unfold w_X5_aim_43
          refine ⟨i_in (by omega) (by omega), ?_⟩
          intro g43 eg43
          exact j_44 g27 g43 (by omega)
        refine ⟨fun c35 => ?_, fun c35 => ?_⟩
        · have f8 : p4.toInt = 0 := i_eq (a := p4.toInt) (b := 0) rfl rfl c35
          exact j_43 p3 (by omega)
        · have f9 : p4.toInt ≠ 0 := i_ne (a := p4.toInt) (b := 0) rfl rfl c35
          exact j_43 p2 (by omega)
      refine ⟨fun c19 => ?_, fun c19 => ?_⟩
      · have f10 : p4.toInt = 0 := i_eq (a := p4.toInt) (b := 0) rfl rfl c19
        exact j_27 p2 (by omega)
      · have f11 : p4.toInt ≠ 0 := i_ne (a := p4.toInt) (b := 0) rfl rfl c19
        exact j_27 p3 (by omega)
set_option maxHeartbeats 4000000 in
theorem ok_X5_buildLoop {p1 : Int32} {p2 : Int32} {p3 : Int32} {p4 : Int32} {v_start : Int32} {v_count : Int32} {v_kinds : Nat → Int32} {v_subjects : Nat → Int32} {v_nexts : Nat → Int32} {v_others : Nat → Int32} {v_tree_there : Bool} {v_tree_count : Int32} {v_tree_captures : Int32} {v_tree_ranges : Int32} {v_tree_sort : Nat → Int32} {v_tree_end : Nat → Int32} {v_tree_before : Nat → Int32} {v_tree_last : Nat → Int32} {v_tree_value : Nat → Int32} {v_tree_low : Nat → Int32} {v_tree_high : Nat → Int32} {W_X5_build : Int32 → Int32 → Int32 → Int32 → Int32 → Int32 → (Nat → Int32) → (Nat → Int32) → (Nat → Int32) → (Nat → Int32) → Bool → Int32 → Int32 → Int32 → (Nat → Int32) → (Nat → Int32) → (Nat → Int32) → (Nat → Int32) → (Nat → Int32) → (Nat → Int32) → (Nat → Int32) → (Int32 → Int32 → (Nat → Int32) → (Nat → Int32) → (Nat → Int32) → (Nat → Int32) → Prop) → Prop} {lv : Int} (hW_X5_build : ∀ (p1 : Int32) (p2 : Int32) (p3 : Int32) (p4 : Int32) (v_start : Int32) (v_count : Int32) (v_kinds : Nat → Int32) (v_subjects : Nat → Int32) (v_nexts : Nat → Int32) (v_others : Nat → Int32) (v_tree_there : Bool) (v_tree_count : Int32) (v_tree_captures : Int32) (v_tree_ranges : Int32) (v_tree_sort : Nat → Int32) (v_tree_end : Nat → Int32) (v_tree_before : Nat → Int32) (v_tree_last : Nat → Int32) (v_tree_value : Nat → Int32) (v_tree_low : Nat → Int32) (v_tree_high : Nat → Int32) (Q : Int32 → Int32 → (Nat → Int32) → (Nat → Int32) → (Nat → Int32) → (Nat → Int32) → Prop), 0 ≤ v_count.toInt → v_count.toInt ≤ 512 → 0 ≤ v_tree_count.toInt → v_tree_count.toInt ≤ 256 → 0 ≤ v_tree_ranges.toInt → v_tree_ranges.toInt ≤ 512 → 0 ≤ p4.toInt → p4.toInt ≤ 61 → (lv : Int) + 1 ≤ p4.toInt → rp (fun k v => -1 ≤ v ∧ v ≤ 255) v_tree_last 0 v_tree_count.toInt → rp (fun k v => k < v ∧ v ≤ 256) v_tree_end 0 v_tree_count.toInt → rp (fun k v => v < k ∧ -1 ≤ v) v_tree_before 0 v_tree_count.toInt → (∀ (r : Int32) (ov_count : Int32) (ov_kinds : Nat → Int32) (ov_subjects : Nat → Int32) (ov_nexts : Nat → Int32) (ov_others : Nat → Int32), 0 ≤ ov_count.toInt → ov_count.toInt ≤ 512 → Q r ov_count ov_kinds ov_subjects ov_nexts ov_others) → W_X5_build p1 p2 p3 p4 v_start v_count v_kinds v_subjects v_nexts v_others v_tree_there v_tree_count v_tree_captures v_tree_ranges v_tree_sort v_tree_end v_tree_before v_tree_last v_tree_value v_tree_low v_tree_high Q) {Q : Int32 → Int32 → (Nat → Int32) → (Nat → Int32) → (Nat → Int32) → (Nat → Int32) → Prop} (a0 : 0 ≤ v_count.toInt) (a1 : v_count.toInt ≤ 512) (a2 : 0 ≤ v_tree_count.toInt) (a3 : v_tree_count.toInt ≤ 256) (a4 : 0 ≤ v_tree_ranges.toInt) (a5 : v_tree_ranges.toInt ≤ 512) (a6 : 0 ≤ p4.toInt) (a7 : p4.toInt ≤ 60) (a8 : (lv : Int) ≤ p4.toInt) (b0 : rp (fun k v => -1 ≤ v ∧ v ≤ 255) v_tree_last 0 v_tree_count.toInt) (b1 : rp (fun k v => k < v ∧ v ≤ 256) v_tree_end 0 v_tree_count.toInt) (b2 : rp (fun k v => v < k ∧ -1 ≤ v) v_tree_before 0 v_tree_count.toInt) (hq : ∀ (r : Int32) (ov_count : Int32) (ov_kinds : Nat → Int32) (ov_subjects : Nat → Int32) (ov_nexts : Nat → Int32) (ov_others : Nat → Int32), 0 ≤ ov_count.toInt + 1 → 0 ≤ ov_count.toInt → ov_count.toInt ≤ 512 → Q r ov_count ov_kinds ov_subjects ov_nexts ov_others) : w_X5_buildLoop W_X5_build p1 p2 p3 p4 v_start v_count v_kinds v_subjects v_nexts v_others v_tree_there v_tree_count v_tree_captures v_tree_ranges v_tree_sort v_tree_end v_tree_before v_tree_last v_tree_value v_tree_low v_tree_high Q := by
  have q_t : (bz true).toInt = 1 := rfl
  have q_f : (bz false).toInt = 0 := rfl
  have q_m1 : ((-1) : Int32).toInt = (-1) := rfl
  have q_0 : (0 : Int32).toInt = 0 := rfl
  have q_1 : (1 : Int32).toInt = 1 := rfl
  have q_4 : (4 : Int32).toInt = 4 := rfl
  have q_5 : (5 : Int32).toInt = 5 := rfl
  unfold w_X5_buildLoop
  refine ok_X10_firstOf (by omega) (by omega) (rp_mono b1 (by omega) (by omega)) (fun r5 f1 f2 => ?_)
  refine ok_X10_valueOf (by omega) (by omega) (fun r15 f3 => ?_)
  have j_27 : ∀ (s0_27 : Int32), ((s0_27.toInt = 0) ∨ (s0_27.toInt = 1 ∧ r15.toInt = 1)) → w_X5_buildLoop_27 W_X5_build p1 p2 p3 p4 v_start v_tree_there v_tree_count v_tree_captures v_tree_ranges v_tree_sort v_tree_end v_tree_before v_tree_last v_tree_value v_tree_low v_tree_high Q s0_27 r5 v_count v_kinds v_subjects v_nexts v_others := by
    intro s0_27 f4
    unfold w_X5_buildLoop_27
    refine ok_X10_isEndless (by omega) (by omega) (fun r37 f5 f6 => ?_)
    have j_90 : ∀ (l7_90 : Int32) (v_count_90 : Int32) (v_kinds_90 : Nat → Int32) (v_subjects_90 : Nat → Int32) (v_nexts_90 : Nat → Int32) (v_others_90 : Nat → Int32), 0 ≤ v_count_90.toInt → v_count_90.toInt ≤ 512 → ((l7_90.toInt = p2.toInt ∧ v_count_90.toInt = v_count.toInt ∧ r37.toInt = 0) ∨ (0 ≤ v_count_90.toInt ∧ v_count_90.toInt ≤ 512)) → w_X5_buildLoop_90 W_X5_build p1 p2 p3 p4 v_start v_tree_there v_tree_count v_tree_captures v_tree_ranges v_tree_sort v_tree_end v_tree_before v_tree_last v_tree_value v_tree_low v_tree_high Q r5 s0_27 l7_90 v_count_90 v_kinds_90 v_subjects_90 v_nexts_90 v_others_90 := by
      intro l7_90 v_count_90 v_kinds_90 v_subjects_90 v_nexts_90 v_others_90 f7 f8 f9
      unfold w_X5_buildLoop_90
      refine ok_X10_highOf (by omega) (by omega) (fun r95 f10 => ?_)
      have j_100 : ∀ n_100 : Nat, ∀ (l7_100 : Int32) (l8_100 : Int32) (v_count_100 : Int32) (v_kinds_100 : Nat → Int32) (v_subjects_100 : Nat → Int32) (v_nexts_100 : Nat → Int32) (v_others_100 : Nat → Int32), l8_100.toInt ≤ r95.toInt → 0 ≤ v_count_100.toInt → v_count_100.toInt ≤ 512 → (l8_100.toInt + 2147483649).toNat < n_100 → w_X5_buildLoop_100 W_X5_build p1 p2 p3 p4 v_start v_tree_there v_tree_count v_tree_captures v_tree_ranges v_tree_sort v_tree_end v_tree_before v_tree_last v_tree_value v_tree_low v_tree_high Q r5 s0_27 n_100 l7_100 l8_100 v_count_100 v_kinds_100 v_subjects_100 v_nexts_100 v_others_100 := by
        intro n_100
        induction n_100 with
        | zero =>
          intro l7_100 l8_100 v_count_100 v_kinds_100 v_subjects_100 v_nexts_100 v_others_100 f11 f12 f13 hm_100
          exfalso; omega
        | succ n_100 ih_100 =>
          intro l7_100 l8_100 v_count_100 v_kinds_100 v_subjects_100 v_nexts_100 v_others_100 f11 f12 f13 hm_100
          unfold w_X5_buildLoop_100
          unfold w_X5_buildLoop_100B
          refine ok_X10_lowOf (by omega) (by omega) (fun r107 f14 => ?_)
          refine ⟨fun c110 => ?_, fun c110 => ?_⟩
          · have f15 : l8_100.toInt ≤ r107.toInt := i_le (a := l8_100.toInt) (b := r107.toInt) rfl rfl c110
            have j_158 : ∀ n_158 : Nat, ∀ (l7_158 : Int32) (l8_158 : Int32) (v_count_158 : Int32) (v_kinds_158 : Nat → Int32) (v_subjects_158 : Nat → Int32) (v_nexts_158 : Nat → Int32) (v_others_158 : Nat → Int32), 0 ≤ l8_158.toInt → 0 ≤ v_count_158.toInt → v_count_158.toInt ≤ 512 → ((-1) * l8_158.toInt + 2147483648).toNat < n_158 → w_X5_buildLoop_158 W_X5_build p1 p3 p4 v_start v_tree_there v_tree_count v_tree_captures v_tree_ranges v_tree_sort v_tree_end v_tree_before v_tree_last v_tree_value v_tree_low v_tree_high Q r5 n_158 l7_158 l8_158 v_count_158 v_kinds_158 v_subjects_158 v_nexts_158 v_others_158 := by
              intro n_158
              induction n_158 with
              | zero =>
                intro l7_158 l8_158 v_count_158 v_kinds_158 v_subjects_158 v_nexts_158 v_others_158 f16 f17 f18 hm_158
                exfalso; omega
              | succ n_158 ih_158 =>
                intro l7_158 l8_158 v_count_158 v_kinds_158 v_subjects_158 v_nexts_158 v_others_158 f16 f17 f18 hm_158
                unfold w_X5_buildLoop_158
                unfold w_X5_buildLoop_158B
                refine ok_X10_lowOf (by omega) (by omega) (fun r165 f19 => ?_)
                refine ⟨fun c168 => ?_, fun c168 => ?_⟩
                · have f20 : r165.toInt ≤ l8_158.toInt := i_le (a := r165.toInt) (b := l8_158.toInt) rfl rfl c168
                  exact hq l7_158 v_count_158 v_kinds_158 v_subjects_158 v_nexts_158 v_others_158 (by omega) (by omega) (by omega)
                · have f21 : l8_158.toInt < r165.toInt := i_nle (a := r165.toInt) (b := l8_158.toInt) rfl rfl c168
                  intro x180 ex180
                  have f22 : x180.toInt = p4.toInt + 1 := i_add (a := p4.toInt) (b := 1) ex180 rfl rfl (by omega) (by omega)
                  refine hW_X5_build r5 l7_158 p3 x180 v_start v_count_158 v_kinds_158 v_subjects_158 v_nexts_158 v_others_158 v_tree_there v_tree_count v_tree_captures v_tree_ranges v_tree_sort v_tree_end v_tree_before v_tree_last v_tree_value v_tree_low v_tree_high _ (by omega) (by omega) (by omega) (by omega) (by omega) (by omega) (by omega) (by omega) (by omega) (rp_mono b0 (by omega) (by omega)) (rp_mono b1 (by omega) (by omega)) (rp_mono b2 (by omega) (by omega)) (fun r181 r181_0 r181_1 r181_2 r181_3 r181_4 f23 f24 => ?_)
                  intro x186 ex186
                  have f25 : x186.toInt = l8_158.toInt + 1 := i_add (a := l8_158.toInt) (b := 1) ex186 rfl rfl (by omega) (by have h8_0 := i_rng l8_100; have h8_1 := i_rng l8_158; have h8_2 := i_rng p1; have h8_3 := i_rng r107; have h8_4 := i_rng r15; have h8_5 := i_rng r165; have h8_6 := i_rng r5; have h8_7 := i_rng r95; have h8_8 := i_rng s0_27; have h8_9 := i_rng v_tree_count; omega)
                  exact ih_158 r181 x186 r181_0 r181_1 r181_2 r181_3 r181_4 (by omega) (by omega) (by omega) (by have h8_0 := i_rng l8_158; have h8_1 := i_rng x186; omega)
            exact ⟨(2147483648 : Int).toNat + 1, j_158   ((2147483648 : Int).toNat + 1) l7_100 0 v_count_100 v_kinds_100 v_subjects_100 v_nexts_100 v_others_100 (by omega) (by omega) (by omega) (by omega)⟩
          · have f26 : r107.toInt < l8_100.toInt := i_nle (a := l8_100.toInt) (b := r107.toInt) rfl rfl c110
            intro x122 ex122
            have f27 : x122.toInt = p4.toInt + 1 := i_add (a := p4.toInt) (b := 1) ex122 rfl rfl (by omega) (by omega)
            refine hW_X5_build r5 l7_100 p3 x122 v_start v_count_100 v_kinds_100 v_subjects_100 v_nexts_100 v_others_100 v_tree_there v_tree_count v_tree_captures v_tree_ranges v_tree_sort v_tree_end v_tree_before v_tree_last v_tree_value v_tree_low v_tree_high _ (by omega) (by omega) (by omega) (by omega) (by omega) (by omega) (by omega) (by omega) (by omega) (rp_mono b0 (by omega) (by omega)) (rp_mono b1 (by omega) (by omega)) (rp_mono b2 (by omega) (by omega)) (fun r123 r123_0 r123_1 r123_2 r123_3 r123_4 f28 f29 => ?_)
            refine ok_X5_add (by omega) (by omega) (fun r133 r133_0 r133_1 r133_2 r133_3 r133_4 f30 f31 => ?_)
            refine ok_X5_aim (by omega) (by omega) (by omega) (by omega) (fun r146_0 r146_1 => ?_)
            intro x149 ex149
            have f32 : x149.toInt = l8_100.toInt + (-1) := i_add (a := l8_100.toInt) (b := (-1)) ex149 rfl rfl (by have h8_0 := i_rng l8_100; have h8_1 := i_rng p1; have h8_2 := i_rng r107; have h8_3 := i_rng r15; have h8_4 := i_rng r5; have h8_5 := i_rng r95; have h8_6 := i_rng s0_27; have h8_7 := i_rng v_tree_count; omega) (by have h8_0 := i_rng l8_100; have h8_1 := i_rng p1; have h8_2 := i_rng r107; have h8_3 := i_rng r15; have h8_4 := i_rng r5; have h8_5 := i_rng r95; have h8_6 := i_rng s0_27; have h8_7 := i_rng v_tree_count; omega)
            exact ih_100 r133 x149 r133_0 r133_1 r133_2 r146_0 r146_1 (by omega) (by omega) (by omega) (by have h8_0 := i_rng l8_100; have h8_1 := i_rng x149; omega)
      exact ⟨(r95.toInt + 2147483649).toNat + 1, j_100   ((r95.toInt + 2147483649).toNat + 1) l7_90 r95 v_count_90 v_kinds_90 v_subjects_90 v_nexts_90 v_others_90 (by omega) (by omega) (by omega) (by omega)⟩
    refine ⟨fun c40 => ?_, fun c40 => ?_⟩
    · have f33 : r37.toInt = 0 := i_eq (a := r37.toInt) (b := 0) rfl rfl c40
      exact j_90 p2 v_count v_kinds v_subjects v_nexts v_others (by omega) (by omega) (by omega)
    · have f34 : r37.toInt ≠ 0 := i_ne (a := r37.toInt) (b := 0) rfl rfl c40
      refine ok_X5_add (by omega) (by omega) (fun r48 r48_0 r48_1 r48_2 r48_3 r48_4 f35 f36 => ?_)
      intro x60 ex60
      refine ok_X5_add (by omega) (by omega) (fun r61 r61_0 r61_1 r61_2 r61_3 r61_4 f37 f38 => ?_)
      intro x76 ex76
      intro x80 ex80
      have f39 : x80.toInt = p4.toInt + 1 := i_add (a := p4.toInt) (b := 1) ex80 rfl rfl (by omega) (by omega)
      refine hW_X5_build r5 r61 x76 x80 v_start r61_0 r61_1 r61_2 r61_3 r61_4 v_tree_there v_tree_count v_tree_captures v_tree_ranges v_tree_sort v_tree_end v_tree_before v_tree_last v_tree_value v_tree_low v_tree_high _ (by omega) (by omega) (by omega) (by omega) (by omega) (by omega) (by omega) (by omega) (by omega) (rp_mono b0 (by omega) (by omega)) (rp_mono b1 (by omega) (by omega)) (rp_mono b2 (by omega) (by omega)) (fun r81 r81_0 r81_1 r81_2 r81_3 r81_4 f40 f41 => ?_)
      refine ok_X5_aim (by omega) (by omega) (by omega) (by omega) (fun r87_0 r87_1 => ?_)
      exact j_90 r48 r81_0 r81_1 r81_2 r87_0 r87_1 (by omega) (by omega) (by omega)
  refine ⟨fun c19 => ?_, fun c19 => ?_⟩
  · have f42 : r15.toInt ≠ 1 := i_ne (a := r15.toInt) (b := 1) rfl rfl c19
    exact j_27 0 (by omega)
  · have f43 : r15.toInt = 1 := i_eq (a := r15.toInt) (b := 1) rfl rfl c19
    exact j_27 1 (by omega)
set_option maxHeartbeats 4000000 in
theorem ok_X5_buildChoice {p1 : Int32} {p2 : Int32} {p3 : Int32} {p4 : Int32} {v_start : Int32} {v_count : Int32} {v_kinds : Nat → Int32} {v_subjects : Nat → Int32} {v_nexts : Nat → Int32} {v_others : Nat → Int32} {v_tree_there : Bool} {v_tree_count : Int32} {v_tree_captures : Int32} {v_tree_ranges : Int32} {v_tree_sort : Nat → Int32} {v_tree_end : Nat → Int32} {v_tree_before : Nat → Int32} {v_tree_last : Nat → Int32} {v_tree_value : Nat → Int32} {v_tree_low : Nat → Int32} {v_tree_high : Nat → Int32} {W_X5_build : Int32 → Int32 → Int32 → Int32 → Int32 → Int32 → (Nat → Int32) → (Nat → Int32) → (Nat → Int32) → (Nat → Int32) → Bool → Int32 → Int32 → Int32 → (Nat → Int32) → (Nat → Int32) → (Nat → Int32) → (Nat → Int32) → (Nat → Int32) → (Nat → Int32) → (Nat → Int32) → (Int32 → Int32 → (Nat → Int32) → (Nat → Int32) → (Nat → Int32) → (Nat → Int32) → Prop) → Prop} {lv : Int} (hW_X5_build : ∀ (p1 : Int32) (p2 : Int32) (p3 : Int32) (p4 : Int32) (v_start : Int32) (v_count : Int32) (v_kinds : Nat → Int32) (v_subjects : Nat → Int32) (v_nexts : Nat → Int32) (v_others : Nat → Int32) (v_tree_there : Bool) (v_tree_count : Int32) (v_tree_captures : Int32) (v_tree_ranges : Int32) (v_tree_sort : Nat → Int32) (v_tree_end : Nat → Int32) (v_tree_before : Nat → Int32) (v_tree_last : Nat → Int32) (v_tree_value : Nat → Int32) (v_tree_low : Nat → Int32) (v_tree_high : Nat → Int32) (Q : Int32 → Int32 → (Nat → Int32) → (Nat → Int32) → (Nat → Int32) → (Nat → Int32) → Prop), 0 ≤ v_count.toInt → v_count.toInt ≤ 512 → 0 ≤ v_tree_count.toInt → v_tree_count.toInt ≤ 256 → 0 ≤ v_tree_ranges.toInt → v_tree_ranges.toInt ≤ 512 → 0 ≤ p4.toInt → p4.toInt ≤ 61 → (lv : Int) + 1 ≤ p4.toInt → rp (fun k v => -1 ≤ v ∧ v ≤ 255) v_tree_last 0 v_tree_count.toInt → rp (fun k v => k < v ∧ v ≤ 256) v_tree_end 0 v_tree_count.toInt → rp (fun k v => v < k ∧ -1 ≤ v) v_tree_before 0 v_tree_count.toInt → (∀ (r : Int32) (ov_count : Int32) (ov_kinds : Nat → Int32) (ov_subjects : Nat → Int32) (ov_nexts : Nat → Int32) (ov_others : Nat → Int32), 0 ≤ ov_count.toInt → ov_count.toInt ≤ 512 → Q r ov_count ov_kinds ov_subjects ov_nexts ov_others) → W_X5_build p1 p2 p3 p4 v_start v_count v_kinds v_subjects v_nexts v_others v_tree_there v_tree_count v_tree_captures v_tree_ranges v_tree_sort v_tree_end v_tree_before v_tree_last v_tree_value v_tree_low v_tree_high Q) {Q : Int32 → Int32 → (Nat → Int32) → (Nat → Int32) → (Nat → Int32) → (Nat → Int32) → Prop} (a0 : 0 ≤ v_count.toInt) (a1 : v_count.toInt ≤ 512) (a2 : 0 ≤ v_tree_count.toInt) (a3 : v_tree_count.toInt ≤ 256) (a4 : 0 ≤ v_tree_ranges.toInt) (a5 : v_tree_ranges.toInt ≤ 512) (a6 : 0 ≤ p4.toInt) (a7 : p4.toInt ≤ 60) (a8 : (lv : Int) ≤ p4.toInt) (b0 : rp (fun k v => -1 ≤ v ∧ v ≤ 255) v_tree_last 0 v_tree_count.toInt) (b1 : rp (fun k v => k < v ∧ v ≤ 256) v_tree_end 0 v_tree_count.toInt) (b2 : rp (fun k v => v < k ∧ -1 ≤ v) v_tree_before 0 v_tree_count.toInt) (hq : ∀ (r : Int32) (ov_count : Int32) (ov_kinds : Nat → Int32) (ov_subjects : Nat → Int32) (ov_nexts : Nat → Int32) (ov_others : Nat → Int32), 0 ≤ ov_count.toInt + 1 → 0 ≤ ov_count.toInt → ov_count.toInt ≤ 512 → Q r ov_count ov_kinds ov_subjects ov_nexts ov_others) : w_X5_buildChoice W_X5_build p1 p2 p3 p4 v_start v_count v_kinds v_subjects v_nexts v_others v_tree_there v_tree_count v_tree_captures v_tree_ranges v_tree_sort v_tree_end v_tree_before v_tree_last v_tree_value v_tree_low v_tree_high Q := by
  have q_t : (bz true).toInt = 1 := rfl
  have q_f : (bz false).toInt = 0 := rfl
  have q_m1 : ((-1) : Int32).toInt = (-1) := rfl
  have q_4 : (4 : Int32).toInt = 4 := rfl
  unfold w_X5_buildChoice
  refine ok_X10_lastOf (by omega) (by omega) (rp_mono b0 (by omega) (by omega)) (fun r5 f1 => ?_)
  intro x18 ex18
  have f2 : x18.toInt = p4.toInt + 1 := i_add (a := p4.toInt) (b := 1) ex18 rfl rfl (by omega) (by omega)
  refine hW_X5_build r5 p2 p3 x18 v_start v_count v_kinds v_subjects v_nexts v_others v_tree_there v_tree_count v_tree_captures v_tree_ranges v_tree_sort v_tree_end v_tree_before v_tree_last v_tree_value v_tree_low v_tree_high _ (by omega) (by omega) (by omega) (by omega) (by omega) (by omega) (by omega) (by omega) (by omega) (rp_mono b0 (by omega) (by omega)) (rp_mono b1 (by omega) (by omega)) (rp_mono b2 (by omega) (by omega)) (fun r19 r19_0 r19_1 r19_2 r19_3 r19_4 f3 f4 => ?_)
  refine ok_X10_beforeOf (by omega) (by omega) (rp_mono b2 (by omega) (by omega)) (fun r30 f5 => ?_)
  have j_35 : ∀ n_35 : Nat, ∀ (l6_35 : Int32) (l7_35 : Int32) (v_count_35 : Int32) (v_kinds_35 : Nat → Int32) (v_subjects_35 : Nat → Int32) (v_nexts_35 : Nat → Int32) (v_others_35 : Nat → Int32), 0 ≤ l7_35.toInt + 1 → l7_35.toInt ≤ r30.toInt → 0 ≤ v_count_35.toInt → v_count_35.toInt ≤ 512 → (l7_35.toInt + 2147483649).toNat < n_35 → w_X5_buildChoice_35 W_X5_build p2 p3 p4 v_start v_tree_there v_tree_count v_tree_captures v_tree_ranges v_tree_sort v_tree_end v_tree_before v_tree_last v_tree_value v_tree_low v_tree_high Q n_35 l6_35 l7_35 v_count_35 v_kinds_35 v_subjects_35 v_nexts_35 v_others_35 := by
    intro n_35
    induction n_35 with
    | zero =>
      intro l6_35 l7_35 v_count_35 v_kinds_35 v_subjects_35 v_nexts_35 v_others_35 f6 f7 f8 f9 hm_35
      exfalso; omega
    | succ n_35 ih_35 =>
      intro l6_35 l7_35 v_count_35 v_kinds_35 v_subjects_35 v_nexts_35 v_others_35 f6 f7 f8 f9 hm_35
      unfold w_X5_buildChoice_35
      unfold w_X5_buildChoice_35B
      refine ⟨fun c38 => ?_, fun c38 => ?_⟩
      · have f10 : l7_35.toInt = (-1) := i_eq (a := l7_35.toInt) (b := (-1)) rfl rfl c38
        exact hq l6_35 v_count_35 v_kinds_35 v_subjects_35 v_nexts_35 v_others_35 (by omega) (by omega) (by omega)
      · have f11 : l7_35.toInt ≠ (-1) := i_ne (a := l7_35.toInt) (b := (-1)) rfl rfl c38
        intro x52 ex52
        have f12 : x52.toInt = p4.toInt + 1 := i_add (a := p4.toInt) (b := 1) ex52 rfl rfl (by omega) (by omega)
        refine hW_X5_build l7_35 p2 p3 x52 v_start v_count_35 v_kinds_35 v_subjects_35 v_nexts_35 v_others_35 v_tree_there v_tree_count v_tree_captures v_tree_ranges v_tree_sort v_tree_end v_tree_before v_tree_last v_tree_value v_tree_low v_tree_high _ (by omega) (by omega) (by omega) (by omega) (by omega) (by omega) (by omega) (by omega) (by omega) (rp_mono b0 (by omega) (by omega)) (rp_mono b1 (by omega) (by omega)) (rp_mono b2 (by omega) (by omega)) (fun r53 r53_0 r53_1 r53_2 r53_3 r53_4 f13 f14 => ?_)
        refine ok_X5_add (by omega) (by omega) (fun r58 r58_0 r58_1 r58_2 r58_3 r58_4 f15 f16 => ?_)
        refine ok_X10_beforeOf (by omega) (by omega) (rp_mono b2 (by omega) (by omega)) (fun r69 f17 => ?_)
        exact ih_35 r58 r69 r58_0 r58_1 r58_2 r58_3 r58_4 (by omega) (by omega) (by omega) (by omega) (by have h8_0 := i_rng l7_35; have h8_1 := i_rng r69; omega)
  exact ⟨(r30.toInt + 2147483649).toNat + 1, j_35   ((r30.toInt + 2147483649).toNat + 1) r19 r30 r19_0 r19_1 r19_2 r19_3 r19_4 (by omega) (by omega) (by omega) (by omega) (by omega)⟩
set_option maxHeartbeats 4000000 in
theorem ok_X5_buildRow {p1 : Int32} {p2 : Int32} {p3 : Int32} {p4 : Int32} {v_start : Int32} {v_count : Int32} {v_kinds : Nat → Int32} {v_subjects : Nat → Int32} {v_nexts : Nat → Int32} {v_others : Nat → Int32} {v_tree_there : Bool} {v_tree_count : Int32} {v_tree_captures : Int32} {v_tree_ranges : Int32} {v_tree_sort : Nat → Int32} {v_tree_end : Nat → Int32} {v_tree_before : Nat → Int32} {v_tree_last : Nat → Int32} {v_tree_value : Nat → Int32} {v_tree_low : Nat → Int32} {v_tree_high : Nat → Int32} {W_X5_build : Int32 → Int32 → Int32 → Int32 → Int32 → Int32 → (Nat → Int32) → (Nat → Int32) → (Nat → Int32) → (Nat → Int32) → Bool → Int32 → Int32 → Int32 → (Nat → Int32) → (Nat → Int32) → (Nat → Int32) → (Nat → Int32) → (Nat → Int32) → (Nat → Int32) → (Nat → Int32) → (Int32 → Int32 → (Nat → Int32) → (Nat → Int32) → (Nat → Int32) → (Nat → Int32) → Prop) → Prop} {lv : Int} (hW_X5_build : ∀ (p1 : Int32) (p2 : Int32) (p3 : Int32) (p4 : Int32) (v_start : Int32) (v_count : Int32) (v_kinds : Nat → Int32) (v_subjects : Nat → Int32) (v_nexts : Nat → Int32) (v_others : Nat → Int32) (v_tree_there : Bool) (v_tree_count : Int32) (v_tree_captures : Int32) (v_tree_ranges : Int32) (v_tree_sort : Nat → Int32) (v_tree_end : Nat → Int32) (v_tree_before : Nat → Int32) (v_tree_last : Nat → Int32) (v_tree_value : Nat → Int32) (v_tree_low : Nat → Int32) (v_tree_high : Nat → Int32) (Q : Int32 → Int32 → (Nat → Int32) → (Nat → Int32) → (Nat → Int32) → (Nat → Int32) → Prop), 0 ≤ v_count.toInt → v_count.toInt ≤ 512 → 0 ≤ v_tree_count.toInt → v_tree_count.toInt ≤ 256 → 0 ≤ v_tree_ranges.toInt → v_tree_ranges.toInt ≤ 512 → 0 ≤ p4.toInt → p4.toInt ≤ 61 → (lv : Int) + 1 ≤ p4.toInt → rp (fun k v => -1 ≤ v ∧ v ≤ 255) v_tree_last 0 v_tree_count.toInt → rp (fun k v => k < v ∧ v ≤ 256) v_tree_end 0 v_tree_count.toInt → rp (fun k v => v < k ∧ -1 ≤ v) v_tree_before 0 v_tree_count.toInt → (∀ (r : Int32) (ov_count : Int32) (ov_kinds : Nat → Int32) (ov_subjects : Nat → Int32) (ov_nexts : Nat → Int32) (ov_others : Nat → Int32), 0 ≤ ov_count.toInt → ov_count.toInt ≤ 512 → Q r ov_count ov_kinds ov_subjects ov_nexts ov_others) → W_X5_build p1 p2 p3 p4 v_start v_count v_kinds v_subjects v_nexts v_others v_tree_there v_tree_count v_tree_captures v_tree_ranges v_tree_sort v_tree_end v_tree_before v_tree_last v_tree_value v_tree_low v_tree_high Q) {Q : Int32 → Int32 → (Nat → Int32) → (Nat → Int32) → (Nat → Int32) → (Nat → Int32) → Prop} (a0 : 0 ≤ v_count.toInt) (a1 : v_count.toInt ≤ 512) (a2 : 0 ≤ v_tree_count.toInt) (a3 : v_tree_count.toInt ≤ 256) (a4 : 0 ≤ v_tree_ranges.toInt) (a5 : v_tree_ranges.toInt ≤ 512) (a6 : 0 ≤ p4.toInt) (a7 : p4.toInt ≤ 60) (a8 : (lv : Int) ≤ p4.toInt) (b0 : rp (fun k v => -1 ≤ v ∧ v ≤ 255) v_tree_last 0 v_tree_count.toInt) (b1 : rp (fun k v => k < v ∧ v ≤ 256) v_tree_end 0 v_tree_count.toInt) (b2 : rp (fun k v => v < k ∧ -1 ≤ v) v_tree_before 0 v_tree_count.toInt) (hq : ∀ (r : Int32) (ov_count : Int32) (ov_kinds : Nat → Int32) (ov_subjects : Nat → Int32) (ov_nexts : Nat → Int32) (ov_others : Nat → Int32), 0 ≤ ov_count.toInt + 1 → 0 ≤ ov_count.toInt → ov_count.toInt ≤ 512 → Q r ov_count ov_kinds ov_subjects ov_nexts ov_others) : w_X5_buildRow W_X5_build p1 p2 p3 p4 v_start v_count v_kinds v_subjects v_nexts v_others v_tree_there v_tree_count v_tree_captures v_tree_ranges v_tree_sort v_tree_end v_tree_before v_tree_last v_tree_value v_tree_low v_tree_high Q := by
  have q_t : (bz true).toInt = 1 := rfl
  have q_f : (bz false).toInt = 0 := rfl
  unfold w_X5_buildRow
  refine ok_X10_lastOf (by omega) (by omega) (rp_mono b0 (by omega) (by omega)) (fun r8 f1 => ?_)
  have j_13 : ∀ n_13 : Nat, ∀ (l5_13 : Int32) (l6_13 : Int32) (v_count_13 : Int32) (v_kinds_13 : Nat → Int32) (v_subjects_13 : Nat → Int32) (v_nexts_13 : Nat → Int32) (v_others_13 : Nat → Int32), 0 ≤ l6_13.toInt + 1 → l6_13.toInt ≤ r8.toInt → 0 ≤ v_count_13.toInt → v_count_13.toInt ≤ 512 → (l6_13.toInt + 2147483649).toNat < n_13 → w_X5_buildRow_13 W_X5_build p3 p4 v_start v_tree_there v_tree_count v_tree_captures v_tree_ranges v_tree_sort v_tree_end v_tree_before v_tree_last v_tree_value v_tree_low v_tree_high Q n_13 l5_13 l6_13 v_count_13 v_kinds_13 v_subjects_13 v_nexts_13 v_others_13 := by
    intro n_13
    induction n_13 with
    | zero =>
      intro l5_13 l6_13 v_count_13 v_kinds_13 v_subjects_13 v_nexts_13 v_others_13 f2 f3 f4 f5 hm_13
      exfalso; omega
    | succ n_13 ih_13 =>
      intro l5_13 l6_13 v_count_13 v_kinds_13 v_subjects_13 v_nexts_13 v_others_13 f2 f3 f4 f5 hm_13
      unfold w_X5_buildRow_13
      unfold w_X5_buildRow_13B
      refine ⟨fun c16 => ?_, fun c16 => ?_⟩
      · have f6 : l6_13.toInt = (-1) := i_eq (a := l6_13.toInt) (b := (-1)) rfl rfl c16
        exact hq l5_13 v_count_13 v_kinds_13 v_subjects_13 v_nexts_13 v_others_13 (by omega) (by omega) (by omega)
      · have f7 : l6_13.toInt ≠ (-1) := i_ne (a := l6_13.toInt) (b := (-1)) rfl rfl c16
        intro x28 ex28
        have f8 : x28.toInt = p4.toInt + 1 := i_add (a := p4.toInt) (b := 1) ex28 rfl rfl (by omega) (by omega)
        refine hW_X5_build l6_13 l5_13 p3 x28 v_start v_count_13 v_kinds_13 v_subjects_13 v_nexts_13 v_others_13 v_tree_there v_tree_count v_tree_captures v_tree_ranges v_tree_sort v_tree_end v_tree_before v_tree_last v_tree_value v_tree_low v_tree_high _ (by omega) (by omega) (by omega) (by omega) (by omega) (by omega) (by omega) (by omega) (by omega) (rp_mono b0 (by omega) (by omega)) (rp_mono b1 (by omega) (by omega)) (rp_mono b2 (by omega) (by omega)) (fun r29 r29_0 r29_1 r29_2 r29_3 r29_4 f9 f10 => ?_)
        refine ok_X10_beforeOf (by omega) (by omega) (rp_mono b2 (by omega) (by omega)) (fun r40 f11 => ?_)
        exact ih_13 r29 r40 r29_0 r29_1 r29_2 r29_3 r29_4 (by omega) (by omega) (by omega) (by omega) (by have h8_0 := i_rng l6_13; have h8_1 := i_rng r40; omega)
  exact ⟨(r8.toInt + 2147483649).toNat + 1, j_13   ((r8.toInt + 2147483649).toNat + 1) p2 r8 v_count v_kinds v_subjects v_nexts v_others (by omega) (by omega) (by omega) (by omega) (by omega)⟩
set_option maxHeartbeats 4000000 in
theorem okB_X5_build {p1 : Int32} {p2 : Int32} {p3 : Int32} {p4 : Int32} {v_start : Int32} {v_count : Int32} {v_kinds : Nat → Int32} {v_subjects : Nat → Int32} {v_nexts : Nat → Int32} {v_others : Nat → Int32} {v_tree_there : Bool} {v_tree_count : Int32} {v_tree_captures : Int32} {v_tree_ranges : Int32} {v_tree_sort : Nat → Int32} {v_tree_end : Nat → Int32} {v_tree_before : Nat → Int32} {v_tree_last : Nat → Int32} {v_tree_value : Nat → Int32} {v_tree_low : Nat → Int32} {v_tree_high : Nat → Int32} {W_X5_build : Int32 → Int32 → Int32 → Int32 → Int32 → Int32 → (Nat → Int32) → (Nat → Int32) → (Nat → Int32) → (Nat → Int32) → Bool → Int32 → Int32 → Int32 → (Nat → Int32) → (Nat → Int32) → (Nat → Int32) → (Nat → Int32) → (Nat → Int32) → (Nat → Int32) → (Nat → Int32) → (Int32 → Int32 → (Nat → Int32) → (Nat → Int32) → (Nat → Int32) → (Nat → Int32) → Prop) → Prop} {lv : Int} (hW_X5_build : ∀ (p1 : Int32) (p2 : Int32) (p3 : Int32) (p4 : Int32) (v_start : Int32) (v_count : Int32) (v_kinds : Nat → Int32) (v_subjects : Nat → Int32) (v_nexts : Nat → Int32) (v_others : Nat → Int32) (v_tree_there : Bool) (v_tree_count : Int32) (v_tree_captures : Int32) (v_tree_ranges : Int32) (v_tree_sort : Nat → Int32) (v_tree_end : Nat → Int32) (v_tree_before : Nat → Int32) (v_tree_last : Nat → Int32) (v_tree_value : Nat → Int32) (v_tree_low : Nat → Int32) (v_tree_high : Nat → Int32) (Q : Int32 → Int32 → (Nat → Int32) → (Nat → Int32) → (Nat → Int32) → (Nat → Int32) → Prop), 0 ≤ v_count.toInt → v_count.toInt ≤ 512 → 0 ≤ v_tree_count.toInt → v_tree_count.toInt ≤ 256 → 0 ≤ v_tree_ranges.toInt → v_tree_ranges.toInt ≤ 512 → 0 ≤ p4.toInt → p4.toInt ≤ 61 → (lv : Int) + 1 ≤ p4.toInt → rp (fun k v => -1 ≤ v ∧ v ≤ 255) v_tree_last 0 v_tree_count.toInt → rp (fun k v => k < v ∧ v ≤ 256) v_tree_end 0 v_tree_count.toInt → rp (fun k v => v < k ∧ -1 ≤ v) v_tree_before 0 v_tree_count.toInt → (∀ (r : Int32) (ov_count : Int32) (ov_kinds : Nat → Int32) (ov_subjects : Nat → Int32) (ov_nexts : Nat → Int32) (ov_others : Nat → Int32), 0 ≤ ov_count.toInt → ov_count.toInt ≤ 512 → Q r ov_count ov_kinds ov_subjects ov_nexts ov_others) → W_X5_build p1 p2 p3 p4 v_start v_count v_kinds v_subjects v_nexts v_others v_tree_there v_tree_count v_tree_captures v_tree_ranges v_tree_sort v_tree_end v_tree_before v_tree_last v_tree_value v_tree_low v_tree_high Q) {Q : Int32 → Int32 → (Nat → Int32) → (Nat → Int32) → (Nat → Int32) → (Nat → Int32) → Prop} (a0 : 0 ≤ v_count.toInt) (a1 : v_count.toInt ≤ 512) (a2 : 0 ≤ v_tree_count.toInt) (a3 : v_tree_count.toInt ≤ 256) (a4 : 0 ≤ v_tree_ranges.toInt) (a5 : v_tree_ranges.toInt ≤ 512) (a6 : 0 ≤ p4.toInt) (a7 : p4.toInt ≤ 61) (a8 : (lv : Int) ≤ p4.toInt) (b0 : rp (fun k v => -1 ≤ v ∧ v ≤ 255) v_tree_last 0 v_tree_count.toInt) (b1 : rp (fun k v => k < v ∧ v ≤ 256) v_tree_end 0 v_tree_count.toInt) (b2 : rp (fun k v => v < k ∧ -1 ≤ v) v_tree_before 0 v_tree_count.toInt) (hq : ∀ (r : Int32) (ov_count : Int32) (ov_kinds : Nat → Int32) (ov_subjects : Nat → Int32) (ov_nexts : Nat → Int32) (ov_others : Nat → Int32), 0 ≤ ov_count.toInt → ov_count.toInt ≤ 512 → Q r ov_count ov_kinds ov_subjects ov_nexts ov_others) : wB_X5_build W_X5_build p1 p2 p3 p4 v_start v_count v_kinds v_subjects v_nexts v_others v_tree_there v_tree_count v_tree_captures v_tree_ranges v_tree_sort v_tree_end v_tree_before v_tree_last v_tree_value v_tree_low v_tree_high Q := by
  have q_t : (bz true).toInt = 1 := rfl
  have q_f : (bz false).toInt = 0 := rfl
  have q_m1 : ((-1) : Int32).toInt = (-1) := rfl
  have q_0 : (0 : Int32).toInt = 0 := rfl
  have q_1 : (1 : Int32).toInt = 1 := rfl
  have q_2 : (2 : Int32).toInt = 2 := rfl
  have q_3 : (3 : Int32).toInt = 3 := rfl
  unfold wB_X5_build
  refine ⟨fun c4 => ?_, fun c4 => ?_⟩
  · have f1 : p4.toInt ≤ 60 := i_le (a := p4.toInt) (b := 60) rfl rfl c4
    refine ok_X10_sortOf (by omega) (by omega) (fun r14 f2 => ?_)
    have j_68 : ((r14.toInt = 0) ∨ (r14.toInt = 1) ∨ (r14.toInt = 2)) → w_X5_build_68 W_X5_build p1 p2 p3 Q v_count v_kinds v_subjects v_nexts v_others := by
      intro f3
      unfold w_X5_build_68
      refine ok_X5_add (by omega) (by omega) (fun r73 r73_0 r73_1 r73_2 r73_3 r73_4 f4 f5 => ?_)
      exact hq r73 r73_0 r73_1 r73_2 r73_3 r73_4 (by omega) (by omega)
    have j_174 : r14.toInt ≠ 0 → r14.toInt ≠ 1 → r14.toInt ≠ 2 → r14.toInt ≠ 3 → r14.toInt ≠ 5 → r14.toInt ≠ 6 → r14.toInt ≠ 7 → r14.toInt ≠ 8 → w_X5_build_174 W_X5_build p1 p2 p3 p4 v_start v_tree_there v_tree_count v_tree_captures v_tree_ranges v_tree_sort v_tree_end v_tree_before v_tree_last v_tree_value v_tree_low v_tree_high Q v_count v_kinds v_subjects v_nexts v_others := by
      intro f6 f7 f8 f9 f10 f11 f12 f13
      unfold w_X5_build_174
      refine ok_X10_firstOf (by omega) (by omega) (rp_mono b1 (by omega) (by omega)) (fun r180 f14 f15 => ?_)
      intro x188 ex188
      have f16 : x188.toInt = p4.toInt + 1 := i_add (a := p4.toInt) (b := 1) ex188 rfl rfl (by omega) (by omega)
      refine hW_X5_build r180 p2 p3 x188 v_start v_count v_kinds v_subjects v_nexts v_others v_tree_there v_tree_count v_tree_captures v_tree_ranges v_tree_sort v_tree_end v_tree_before v_tree_last v_tree_value v_tree_low v_tree_high _ (by omega) (by omega) (by omega) (by omega) (by omega) (by omega) (by omega) (by omega) (by omega) (rp_mono b0 (by omega) (by omega)) (rp_mono b1 (by omega) (by omega)) (rp_mono b2 (by omega) (by omega)) (fun r189 r189_0 r189_1 r189_2 r189_3 r189_4 f17 f18 => ?_)
      exact hq r189 r189_0 r189_1 r189_2 r189_3 r189_4 (by omega) (by omega)
    refine ⟨fun c17_0 => ?_, fun c17_1 => ?_, fun c17_2 => ?_, fun c17_3 => ?_, fun c17_4 => ?_, fun c17_5 => ?_, fun c17_6 => ?_, fun c17_7 => ?_, ?_⟩
    · have f19 : r14.toInt = 0 := i_eq (a := r14.toInt) (b := 0) rfl rfl c17_0
      exact j_68  (by omega)
    · have f20 : r14.toInt = 1 := i_eq (a := r14.toInt) (b := 1) rfl rfl c17_1
      exact j_68  (by omega)
    · have f21 : r14.toInt = 2 := i_eq (a := r14.toInt) (b := 2) rfl rfl c17_2
      exact j_68  (by omega)
    · have f22 : r14.toInt = 3 := i_eq (a := r14.toInt) (b := 3) rfl rfl c17_3
      refine ok_X10_valueOf (by omega) (by omega) (fun r84 f23 => ?_)
      refine ok_X5_add (by omega) (by omega) (fun r89 r89_0 r89_1 r89_2 r89_3 r89_4 f24 f25 => ?_)
      exact hq r89 r89_0 r89_1 r89_2 r89_3 r89_4 (by omega) (by omega)
    · have f26 : r14.toInt = 5 := i_eq (a := r14.toInt) (b := 5) rfl rfl c17_4
      refine ok_X5_buildRow (lv := lv) hW_X5_build (by omega) (by omega) (by omega) (by omega) (by omega) (by omega) (by omega) (by omega) (by omega) (rp_mono b0 (by omega) (by omega)) (rp_mono b1 (by omega) (by omega)) (rp_mono b2 (by omega) (by omega)) (fun r99 r99_0 r99_1 r99_2 r99_3 r99_4 f27 f28 f29 => ?_)
      exact hq r99 r99_0 r99_1 r99_2 r99_3 r99_4 (by omega) (by omega)
    · have f30 : r14.toInt = 6 := i_eq (a := r14.toInt) (b := 6) rfl rfl c17_5
      refine ok_X5_buildChoice (lv := lv) hW_X5_build (by omega) (by omega) (by omega) (by omega) (by omega) (by omega) (by omega) (by omega) (by omega) (rp_mono b0 (by omega) (by omega)) (rp_mono b1 (by omega) (by omega)) (rp_mono b2 (by omega) (by omega)) (fun r109 r109_0 r109_1 r109_2 r109_3 r109_4 f31 f32 f33 => ?_)
      exact hq r109 r109_0 r109_1 r109_2 r109_3 r109_4 (by omega) (by omega)
    · have f34 : r14.toInt = 7 := i_eq (a := r14.toInt) (b := 7) rfl rfl c17_6
      refine ok_X5_buildLoop (lv := lv) hW_X5_build (by omega) (by omega) (by omega) (by omega) (by omega) (by omega) (by omega) (by omega) (by omega) (rp_mono b0 (by omega) (by omega)) (rp_mono b1 (by omega) (by omega)) (rp_mono b2 (by omega) (by omega)) (fun r119 r119_0 r119_1 r119_2 r119_3 r119_4 f35 f36 f37 => ?_)
      exact hq r119 r119_0 r119_1 r119_2 r119_3 r119_4 (by omega) (by omega)
    · have f38 : r14.toInt = 8 := i_eq (a := r14.toInt) (b := 8) rfl rfl c17_7
      refine ok_X10_valueOf (by omega) (by omega) (fun r130 f39 => ?_)
      refine ok_X5_add (by omega) (by omega) (fun r135 r135_0 r135_1 r135_2 r135_3 r135_4 f40 f41 => ?_)
      refine ok_X10_valueOf (by omega) (by omega) (fun r147 f42 => ?_)
      refine ok_X10_firstOf (by omega) (by omega) (rp_mono b1 (by omega) (by omega)) (fun r156 f43 f44 => ?_)
      intro x165 ex165
      have f45 : x165.toInt = p4.toInt + 1 := i_add (a := p4.toInt) (b := 1) ex165 rfl rfl (by omega) (by omega)
      refine hW_X5_build r156 r135 p3 x165 v_start r135_0 r135_1 r135_2 r135_3 r135_4 v_tree_there v_tree_count v_tree_captures v_tree_ranges v_tree_sort v_tree_end v_tree_before v_tree_last v_tree_value v_tree_low v_tree_high _ (by omega) (by omega) (by omega) (by omega) (by omega) (by omega) (by omega) (by omega) (by omega) (rp_mono b0 (by omega) (by omega)) (rp_mono b1 (by omega) (by omega)) (rp_mono b2 (by omega) (by omega)) (fun r166 r166_0 r166_1 r166_2 r166_3 r166_4 f46 f47 => ?_)
      refine ok_X5_add (by omega) (by omega) (fun r170 r170_0 r170_1 r170_2 r170_3 r170_4 f48 f49 => ?_)
      exact hq r170 r170_0 r170_1 r170_2 r170_3 r170_4 (by omega) (by omega)
    · intro c17_0 c17_1 c17_2 c17_3 c17_4 c17_5 c17_6 c17_7
      have f50 : r14.toInt ≠ 0 := i_ne (a := r14.toInt) (b := 0) rfl rfl c17_0
      have f51 : r14.toInt ≠ 1 := i_ne (a := r14.toInt) (b := 1) rfl rfl c17_1
      have f52 : r14.toInt ≠ 2 := i_ne (a := r14.toInt) (b := 2) rfl rfl c17_2
      have f53 : r14.toInt ≠ 3 := i_ne (a := r14.toInt) (b := 3) rfl rfl c17_3
      have f54 : r14.toInt ≠ 5 := i_ne (a := r14.toInt) (b := 5) rfl rfl c17_4
      have f55 : r14.toInt ≠ 6 := i_ne (a := r14.toInt) (b := 6) rfl rfl c17_5
      have f56 : r14.toInt ≠ 7 := i_ne (a := r14.toInt) (b := 7) rfl rfl c17_6
      have f57 : r14.toInt ≠ 8 := i_ne (a := r14.toInt) (b := 8) rfl rfl c17_7
      exact j_174  (by omega) (by omega) (by omega) (by omega) (by omega) (by omega) (by omega) (by omega)
  · have f58 : 60 < p4.toInt := i_nle (a := p4.toInt) (b := 60) rfl rfl c4
    exact hq p2 v_count v_kinds v_subjects v_nexts v_others (by omega) (by omega)
set_option maxHeartbeats 4000000 in
theorem okN_X5_build (n9 : Nat) : ∀ (p1 : Int32) (p2 : Int32) (p3 : Int32) (p4 : Int32) (v_start : Int32) (v_count : Int32) (v_kinds : Nat → Int32) (v_subjects : Nat → Int32) (v_nexts : Nat → Int32) (v_others : Nat → Int32) (v_tree_there : Bool) (v_tree_count : Int32) (v_tree_captures : Int32) (v_tree_ranges : Int32) (v_tree_sort : Nat → Int32) (v_tree_end : Nat → Int32) (v_tree_before : Nat → Int32) (v_tree_last : Nat → Int32) (v_tree_value : Nat → Int32) (v_tree_low : Nat → Int32) (v_tree_high : Nat → Int32) (Q : Int32 → Int32 → (Nat → Int32) → (Nat → Int32) → (Nat → Int32) → (Nat → Int32) → Prop), 61 - p4.toInt < (n9 : Int) → 0 ≤ v_count.toInt → v_count.toInt ≤ 512 → 0 ≤ v_tree_count.toInt → v_tree_count.toInt ≤ 256 → 0 ≤ v_tree_ranges.toInt → v_tree_ranges.toInt ≤ 512 → 0 ≤ p4.toInt → p4.toInt ≤ 61 → rp (fun k v => -1 ≤ v ∧ v ≤ 255) v_tree_last 0 v_tree_count.toInt → rp (fun k v => k < v ∧ v ≤ 256) v_tree_end 0 v_tree_count.toInt → rp (fun k v => v < k ∧ -1 ≤ v) v_tree_before 0 v_tree_count.toInt → (∀ (r : Int32) (ov_count : Int32) (ov_kinds : Nat → Int32) (ov_subjects : Nat → Int32) (ov_nexts : Nat → Int32) (ov_others : Nat → Int32), 0 ≤ ov_count.toInt → ov_count.toInt ≤ 512 → Q r ov_count ov_kinds ov_subjects ov_nexts ov_others) → w_X5_build n9 p1 p2 p3 p4 v_start v_count v_kinds v_subjects v_nexts v_others v_tree_there v_tree_count v_tree_captures v_tree_ranges v_tree_sort v_tree_end v_tree_before v_tree_last v_tree_value v_tree_low v_tree_high Q := by
  induction n9 with
  | zero => intro p1 p2 p3 p4 v_start v_count v_kinds v_subjects v_nexts v_others v_tree_there v_tree_count v_tree_captures v_tree_ranges v_tree_sort v_tree_end v_tree_before v_tree_last v_tree_value v_tree_low v_tree_high Q hn a0 a1 a2 a3 a4 a5 a6 a7 b0 b1 b2 hq; exfalso; omega
  | succ n9 ih =>
    intro p1 p2 p3 p4 v_start v_count v_kinds v_subjects v_nexts v_others v_tree_there v_tree_count v_tree_captures v_tree_ranges v_tree_sort v_tree_end v_tree_before v_tree_last v_tree_value v_tree_low v_tree_high Q hn a0 a1 a2 a3 a4 a5 a6 a7 b0 b1 b2 hq
    unfold w_X5_build
    exact okB_X5_build (lv := p4.toInt) (fun p1 p2 p3 p4 v_start v_count v_kinds v_subjects v_nexts v_others v_tree_there v_tree_count v_tree_captures v_tree_ranges v_tree_sort v_tree_end v_tree_before v_tree_last v_tree_value v_tree_low v_tree_high Q a0 a1 a2 a3 a4 a5 a6 a7 a8 b0 b1 b2 hq => ih p1 p2 p3 p4 v_start v_count v_kinds v_subjects v_nexts v_others v_tree_there v_tree_count v_tree_captures v_tree_ranges v_tree_sort v_tree_end v_tree_before v_tree_last v_tree_value v_tree_low v_tree_high Q (by omega) a0 a1 a2 a3 a4 a5 a6 a7 b0 b1 b2 hq) (by omega) (by omega) (by omega) (by omega) (by omega) (by omega) (by omega) (by omega) (by omega) b0 b1 b2 (fun r ov_count ov_kinds ov_subjects ov_nexts ov_others f0 f1 => hq r ov_count ov_kinds ov_subjects ov_nexts ov_others (by omega) (by omega))
theorem ok_X5_build {p1 : Int32} {p2 : Int32} {p3 : Int32} {p4 : Int32} {v_start : Int32} {v_count : Int32} {v_kinds : Nat → Int32} {v_subjects : Nat → Int32} {v_nexts : Nat → Int32} {v_others : Nat → Int32} {v_tree_there : Bool} {v_tree_count : Int32} {v_tree_captures : Int32} {v_tree_ranges : Int32} {v_tree_sort : Nat → Int32} {v_tree_end : Nat → Int32} {v_tree_before : Nat → Int32} {v_tree_last : Nat → Int32} {v_tree_value : Nat → Int32} {v_tree_low : Nat → Int32} {v_tree_high : Nat → Int32} {Q : Int32 → Int32 → (Nat → Int32) → (Nat → Int32) → (Nat → Int32) → (Nat → Int32) → Prop} (a0 : 0 ≤ v_count.toInt) (a1 : v_count.toInt ≤ 512) (a2 : 0 ≤ v_tree_count.toInt) (a3 : v_tree_count.toInt ≤ 256) (a4 : 0 ≤ v_tree_ranges.toInt) (a5 : v_tree_ranges.toInt ≤ 512) (a6 : 0 ≤ p4.toInt) (a7 : p4.toInt ≤ 61) (b0 : rp (fun k v => -1 ≤ v ∧ v ≤ 255) v_tree_last 0 v_tree_count.toInt) (b1 : rp (fun k v => k < v ∧ v ≤ 256) v_tree_end 0 v_tree_count.toInt) (b2 : rp (fun k v => v < k ∧ -1 ≤ v) v_tree_before 0 v_tree_count.toInt) (hq : ∀ (r : Int32) (ov_count : Int32) (ov_kinds : Nat → Int32) (ov_subjects : Nat → Int32) (ov_nexts : Nat → Int32) (ov_others : Nat → Int32), 0 ≤ ov_count.toInt → ov_count.toInt ≤ 512 → Q r ov_count ov_kinds ov_subjects ov_nexts ov_others) : w_X5_build 64 p1 p2 p3 p4 v_start v_count v_kinds v_subjects v_nexts v_others v_tree_there v_tree_count v_tree_captures v_tree_ranges v_tree_sort v_tree_end v_tree_before v_tree_last v_tree_value v_tree_low v_tree_high Q :=
  okN_X5_build 64 p1 p2 p3 p4 v_start v_count v_kinds v_subjects v_nexts v_others v_tree_there v_tree_count v_tree_captures v_tree_ranges v_tree_sort v_tree_end v_tree_before v_tree_last v_tree_value v_tree_low v_tree_high Q (by omega) a0 a1 a2 a3 a4 a5 a6 a7 b0 b1 b2 hq
set_option maxHeartbeats 4000000 in
theorem ok_X5_write {v_start : Int32} {v_kinds : Nat → Int32} {v_subjects : Nat → Int32} {v_nexts : Nat → Int32} {v_others : Nat → Int32} {a1_there : Bool} {a1_count : Int32} {a1_captures : Int32} {a1_ranges : Int32} {a1_sort : Nat → Int32} {a1_end : Nat → Int32} {a1_before : Nat → Int32} {a1_last : Nat → Int32} {a1_value : Nat → Int32} {a1_low : Nat → Int32} {a1_high : Nat → Int32} {Q : Int32 → Int32 → (Nat → Int32) → (Nat → Int32) → (Nat → Int32) → (Nat → Int32) → Prop} (a0 : 0 ≤ a1_count.toInt) (a1 : a1_count.toInt ≤ 256) (a2 : 0 ≤ a1_ranges.toInt) (a3 : a1_ranges.toInt ≤ 512) (b0 : rp (fun k v => -1 ≤ v ∧ v ≤ 255) a1_last 0 a1_count.toInt) (b1 : rp (fun k v => k < v ∧ v ≤ 256) a1_end 0 a1_count.toInt) (b2 : rp (fun k v => v < k ∧ -1 ≤ v) a1_before 0 a1_count.toInt) (hq : ∀ (ov_start : Int32) (ov_count : Int32) (ov_kinds : Nat → Int32) (ov_subjects : Nat → Int32) (ov_nexts : Nat → Int32) (ov_others : Nat → Int32), 0 ≤ ov_count.toInt → ov_count.toInt ≤ 512 → Q ov_start ov_count ov_kinds ov_subjects ov_nexts ov_others) : w_X5_write v_start v_kinds v_subjects v_nexts v_others a1_there a1_count a1_captures a1_ranges a1_sort a1_end a1_before a1_last a1_value a1_low a1_high Q := by
  have q_t : (bz true).toInt = 1 := rfl
  have q_f : (bz false).toInt = 0 := rfl
  have q_m1 : ((-1) : Int32).toInt = (-1) := rfl
  have q_0 : (0 : Int32).toInt = 0 := rfl
  have q_6 : (6 : Int32).toInt = 6 := rfl
  unfold w_X5_write
  refine ok_X5_add (by omega) (by omega) (fun r19 r19_0 r19_1 r19_2 r19_3 r19_4 f1 f2 => ?_)
  refine ok_X5_build (by omega) (by omega) (by omega) (by omega) (by omega) (by omega) (by omega) (by omega) (rp_mono b0 (by omega) (by omega)) (rp_mono b1 (by omega) (by omega)) (rp_mono b2 (by omega) (by omega)) (fun r24 r24_0 r24_1 r24_2 r24_3 r24_4 f3 f4 => ?_)
  exact hq r24 r24_0 r24_1 r24_2 r24_3 r24_4 (by omega) (by omega)
set_option maxHeartbeats 4000000 in
theorem ok_X9_groupOf {p1 : Int32} {v_groups : Nat → Int32} {Q : Int32 → Prop} (hq : ∀ (r : Int32), ((0 ≤ p1.toInt ∧ p1.toInt ≤ 59) ∨ (r.toInt + 1 = 0)) → Q r) : w_X9_groupOf p1 v_groups Q := by
  have q_t : (bz true).toInt = 1 := rfl
  have q_f : (bz false).toInt = 0 := rfl
  have q_m1 : ((-1) : Int32).toInt = (-1) := rfl
  unfold w_X9_groupOf
  have j_20 : ∀ (s0_20 : Int32), ((0 ≤ p1.toInt ∧ p1.toInt ≤ 59) ∨ (s0_20.toInt + 1 = 0)) → w_X9_groupOf_20 Q s0_20 := by
    intro s0_20 f1
    unfold w_X9_groupOf_20
    exact hq s0_20 (by omega)
  have j_19 : ((p1.toInt + 1 ≤ 0) ∨ (0 ≤ p1.toInt ∧ 60 ≤ p1.toInt)) → w_X9_groupOf_19 Q := by
    intro f2
    unfold w_X9_groupOf_19
    exact j_20 (-1) (by omega)
  refine ⟨fun c1 => ?_, fun c1 => ?_⟩
  · have f3 : p1.toInt < 0 := i_lt (a := p1.toInt) (b := 0) rfl rfl c1
    exact j_19  (by omega)
  · have f4 : 0 ≤ p1.toInt := i_nlt (a := p1.toInt) (b := 0) rfl rfl c1
    refine ⟨fun c7 => ?_, fun c7 => ?_⟩
    · have f5 : 60 ≤ p1.toInt := i_le (a := 60) (b := p1.toInt) rfl rfl c7
      exact j_19  (by omega)
    · have f6 : p1.toInt < 60 := i_nle (a := 60) (b := p1.toInt) rfl rfl c7
      refine ⟨i_in (by omega) (by omega), ?_⟩
      intro x15 ex15
      exact j_20 x15 (by omega)
set_option maxHeartbeats 4000000 in
theorem ok_X9_ends {p1 : Int32} {v_count : Int32} {v_ahead : Nat → Int64} {Q : Int32 → Prop} (a0 : 0 ≤ v_count.toInt) (a1 : v_count.toInt ≤ 60) (hq : ∀ (r : Int32), ((r.toInt = 1 ∧ 0 ≤ p1.toInt ∧ p1.toInt + 1 ≤ v_count.toInt) ∨ (r.toInt = 0)) → Q r) : w_X9_ends p1 v_count v_ahead Q := by
  have q_t : (bz true).toInt = 1 := rfl
  have q_f : (bz false).toInt = 0 := rfl
  have q_0 : (0 : Int32).toInt = 0 := rfl
  have q_1 : (1 : Int32).toInt = 1 := rfl
  unfold w_X9_ends
  have j_32 : ∀ (s0_32 : Int32), ((s0_32.toInt = 1 ∧ 0 ≤ p1.toInt ∧ p1.toInt + 1 ≤ v_count.toInt) ∨ (s0_32.toInt = 0)) → w_X9_ends_32 Q s0_32 := by
    intro s0_32 f1
    unfold w_X9_ends_32
    refine ⟨i_01 (by omega) (by omega), ?_⟩
    exact hq s0_32 (by omega)
  have j_31 : ((p1.toInt + 1 ≤ 0) ∨ (0 ≤ p1.toInt ∧ v_count.toInt ≤ p1.toInt) ∨ (0 ≤ p1.toInt ∧ p1.toInt + 1 ≤ v_count.toInt)) → w_X9_ends_31 Q := by
    intro f2
    unfold w_X9_ends_31
    exact j_32 0 (by omega)
  refine ⟨fun c1 => ?_, fun c1 => ?_⟩
  · have f3 : p1.toInt < 0 := i_lt (a := p1.toInt) (b := 0) rfl rfl c1
    exact j_31  (by omega)
  · have f4 : 0 ≤ p1.toInt := i_nlt (a := p1.toInt) (b := 0) rfl rfl c1
    refine ⟨fun c9 => ?_, fun c9 => ?_⟩
    · have f5 : v_count.toInt ≤ p1.toInt := i_le (a := v_count.toInt) (b := p1.toInt) rfl rfl c9
      exact j_31  (by omega)
    · have f6 : p1.toInt < v_count.toInt := i_nle (a := v_count.toInt) (b := p1.toInt) rfl rfl c9
      refine ⟨i_in (by omega) (by omega), ?_⟩
      intro y17 ey17
      intro y21 ey21
      intro x23 ex23
      have f7 : (0 ≤ x23.toInt + 1 ∧ x23.toInt ≤ 1) := by have h9 := i_cmp ex23; omega
      refine ⟨fun c24 => ?_, fun c24 => ?_⟩
      · have f8 : x23.toInt = 0 := i_eq (a := x23.toInt) (b := 0) rfl rfl c24
        exact j_31  (by omega)
      · have f9 : x23.toInt ≠ 0 := i_ne (a := x23.toInt) (b := 0) rfl rfl c24
        exact j_32 1 (by omega)
set_option maxHeartbeats 4000000 in
theorem ok_X9_takersOf {p1 : Int32} {v_positionCount : Int32} {v_program_count : Int32} {v_program_subjects : Nat → Int32} {v_pcOf : Nat → Int32} {v_program_tree_count : Int32} {v_program_tree_ranges : Int32} {v_program_tree_sort : Nat → Int32} {v_program_tree_value : Nat → Int32} {v_program_tree_low : Nat → Int32} {v_program_tree_high : Nat → Int32} {v_program_tree_withinCase : Nat → Bool} {v_program_tree_rangeBegin : Nat → Int32} {v_program_tree_rangeEnd : Nat → Int32} {Q : Int64 → Prop} (a0 : 0 ≤ v_positionCount.toInt) (a1 : v_positionCount.toInt ≤ 60) (a2 : 0 ≤ v_program_count.toInt) (a3 : v_program_count.toInt ≤ 512) (a4 : 0 ≤ v_program_tree_count.toInt) (a5 : v_program_tree_count.toInt ≤ 256) (a6 : 0 ≤ v_program_tree_ranges.toInt) (a7 : v_program_tree_ranges.toInt ≤ 512) (hq : ∀ (r : Int64), Q r) : w_X9_takersOf p1 v_positionCount v_program_count v_program_subjects v_pcOf v_program_tree_count v_program_tree_ranges v_program_tree_sort v_program_tree_value v_program_tree_low v_program_tree_high v_program_tree_withinCase v_program_tree_rangeBegin v_program_tree_rangeEnd Q := by
  have q_t : (bz true).toInt = 1 := rfl
  have q_f : (bz false).toInt = 0 := rfl
  have q_0 : (0 : Int32).toInt = 0 := rfl
  unfold w_X9_takersOf
  have j_5 : ∀ n_5 : Nat, ∀ (l2_5 : Int64) (l4_5 : Int32), 0 ≤ l4_5.toInt → l4_5.toInt ≤ v_positionCount.toInt → ((-1) * l4_5.toInt + 2147483648).toNat < n_5 → w_X9_takersOf_5 p1 v_positionCount v_program_count v_program_subjects v_pcOf v_program_tree_count v_program_tree_ranges v_program_tree_sort v_program_tree_value v_program_tree_low v_program_tree_high v_program_tree_withinCase v_program_tree_rangeBegin v_program_tree_rangeEnd Q n_5 l2_5 l4_5 := by
    intro n_5
    induction n_5 with
    | zero =>
      intro l2_5 l4_5 f1 f2 hm_5
      exfalso; omega
    | succ n_5 ih_5 =>
      intro l2_5 l4_5 f1 f2 hm_5
      unfold w_X9_takersOf_5
      unfold w_X9_takersOf_5B
      refine ⟨fun c11 => ?_, fun c11 => ?_⟩
      · have f3 : v_positionCount.toInt ≤ l4_5.toInt := i_le (a := v_positionCount.toInt) (b := l4_5.toInt) rfl rfl c11
        exact hq l2_5 
      · have f4 : l4_5.toInt < v_positionCount.toInt := i_nle (a := v_positionCount.toInt) (b := l4_5.toInt) rfl rfl c11
        refine ⟨i_in (by omega) (by omega), ?_⟩
        intro x24 ex24
        refine ok_X5_takes (by omega) (by omega) (by omega) (by omega) (by omega) (by omega) (fun r26 f5 f6 => ?_)
        have j_39 : ∀ (l2_39 : Int64), w_X9_takersOf_39 Q (w_X9_takersOf_5 p1 v_positionCount v_program_count v_program_subjects v_pcOf v_program_tree_count v_program_tree_ranges v_program_tree_sort v_program_tree_value v_program_tree_low v_program_tree_high v_program_tree_withinCase v_program_tree_rangeBegin v_program_tree_rangeEnd Q n_5) l2_39 l4_5 := by
          intro l2_39
          unfold w_X9_takersOf_39
          intro x39 ex39
          have f7 : x39.toInt = l4_5.toInt + 1 := i_add (a := l4_5.toInt) (b := 1) ex39 rfl rfl (by omega) (by omega)
          exact ih_5 l2_39 x39 (by omega) (by omega) (by have h8_0 := i_rng l4_5; have h8_1 := i_rng x39; omega)
        refine ⟨fun c29 => ?_, fun c29 => ?_⟩
        · have f8 : r26.toInt = 0 := i_eq (a := r26.toInt) (b := 0) rfl rfl c29
          exact j_39 l2_5 
        · have f9 : r26.toInt ≠ 0 := i_ne (a := r26.toInt) (b := 0) rfl rfl c29
          intro y36 ey36
          intro y37 ey37
          exact j_39 y37 
  exact ⟨(2147483648 : Int).toNat + 1, j_5   ((2147483648 : Int).toNat + 1) 0 0 (by omega) (by omega) (by omega)⟩
set_option maxHeartbeats 4000000 in
theorem ok_X9_followOf {p1 : Int64} {v_positionCount : Int32} {v_follow : Nat → Int64} {Q : Int64 → Prop} (a0 : 0 ≤ v_positionCount.toInt) (a1 : v_positionCount.toInt ≤ 60) (hq : ∀ (r : Int64), Q r) : w_X9_followOf p1 v_positionCount v_follow Q := by
  have q_t : (bz true).toInt = 1 := rfl
  have q_f : (bz false).toInt = 0 := rfl
  have q_0 : (0 : Int32).toInt = 0 := rfl
  unfold w_X9_followOf
  have j_5 : ∀ n_5 : Nat, ∀ (l3_5 : Int64) (l5_5 : Int32), 0 ≤ l5_5.toInt → l5_5.toInt ≤ v_positionCount.toInt → ((-1) * l5_5.toInt + 2147483648).toNat < n_5 → w_X9_followOf_5 p1 v_positionCount v_follow Q n_5 l3_5 l5_5 := by
    intro n_5
    induction n_5 with
    | zero =>
      intro l3_5 l5_5 f1 f2 hm_5
      exfalso; omega
    | succ n_5 ih_5 =>
      intro l3_5 l5_5 f1 f2 hm_5
      unfold w_X9_followOf_5
      unfold w_X9_followOf_5B
      refine ⟨fun c11 => ?_, fun c11 => ?_⟩
      · have f3 : v_positionCount.toInt ≤ l5_5.toInt := i_le (a := v_positionCount.toInt) (b := l5_5.toInt) rfl rfl c11
        exact hq l3_5 
      · have f4 : l5_5.toInt < v_positionCount.toInt := i_nle (a := v_positionCount.toInt) (b := l5_5.toInt) rfl rfl c11
        intro y17 ey17
        intro y19 ey19
        intro x21 ex21
        have f5 : (0 ≤ x21.toInt + 1 ∧ x21.toInt ≤ 1) := by have h9 := i_cmp ex21; omega
        have j_35 : ∀ (l3_35 : Int64), w_X9_followOf_35 Q (w_X9_followOf_5 p1 v_positionCount v_follow Q n_5) l3_35 l5_5 := by
          intro l3_35
          unfold w_X9_followOf_35
          intro x35 ex35
          have f6 : x35.toInt = l5_5.toInt + 1 := i_add (a := l5_5.toInt) (b := 1) ex35 rfl rfl (by omega) (by omega)
          exact ih_5 l3_35 x35 (by omega) (by omega) (by have h8_0 := i_rng l5_5; have h8_1 := i_rng x35; omega)
        refine ⟨fun c22 => ?_, fun c22 => ?_⟩
        · have f7 : x21.toInt ≠ 0 := i_ne (a := x21.toInt) (b := 0) rfl rfl c22
          exact j_35 l3_5 
        · have f8 : x21.toInt = 0 := i_eq (a := x21.toInt) (b := 0) rfl rfl c22
          refine ⟨i_in (by omega) (by omega), ?_⟩
          intro y32 ey32
          intro y33 ey33
          exact j_35 y33 
  exact ⟨(2147483648 : Int).toNat + 1, j_5   ((2147483648 : Int).toNat + 1) 0 0 (by omega) (by omega) (by omega)⟩
set_option maxHeartbeats 4000000 in
theorem ok_X9_next {p1 : Int32} {p2 : Int32} {v_count : Int32} {v_width : Int32} {v_goes : Nat → Int32} {Q : Int32 → Prop} (a0 : 0 ≤ v_count.toInt) (a1 : v_count.toInt ≤ 60) (a2 : 0 ≤ v_width.toInt) (a3 : v_width.toInt ≤ 256) (hq : ∀ (r : Int32), Q r) : w_X9_next p1 p2 v_count v_width v_goes Q := by
  have q_t : (bz true).toInt = 1 := rfl
  have q_f : (bz false).toInt = 0 := rfl
  have q_0 : (0 : Int32).toInt = 0 := rfl
  have q_1 : (1 : Int32).toInt = 1 := rfl
  unfold w_X9_next
  have j_29 : ∀ (s0_29 : Int32), ((s0_29.toInt = 1 ∧ 0 ≤ p1.toInt ∧ p1.toInt + 1 ≤ v_count.toInt ∧ 0 ≤ p2.toInt ∧ p2.toInt + 1 ≤ v_width.toInt) ∨ (s0_29.toInt = 0)) → w_X9_next_29 p1 p2 v_goes Q s0_29 := by
    intro s0_29 f1
    unfold w_X9_next_29
    have j_50 : ∀ (s0_50 : Int32), w_X9_next_50 Q s0_50 := by
      intro s0_50
      unfold w_X9_next_50
      exact hq s0_50 
    refine ⟨fun c31 => ?_, fun c31 => ?_⟩
    · have f2 : s0_29.toInt = 0 := i_eq (a := s0_29.toInt) (b := 0) rfl rfl c31
      exact j_50 0 
    · have f3 : s0_29.toInt ≠ 0 := i_ne (a := s0_29.toInt) (b := 0) rfl rfl c31
      intro x42 ex42
      have f4 : x42.toInt = p1.toInt * 256 := i_mul (a := p1.toInt) (b := 256) ex42 rfl rfl (by omega) (by omega)
      intro x44 ex44
      have f5 : x44.toInt = x42.toInt + p2.toInt := i_add (a := x42.toInt) (b := p2.toInt) ex44 rfl rfl (by omega) (by omega)
      refine ⟨i_in (by omega) (by omega), ?_⟩
      intro x45 ex45
      exact j_50 x45 
  have j_28 : w_X9_next_28 p1 p2 v_goes Q := by
    unfold w_X9_next_28
    exact j_29 0 (by omega)
  refine ⟨fun c1 => ?_, fun c1 => ?_⟩
  · have f6 : p1.toInt < 0 := i_lt (a := p1.toInt) (b := 0) rfl rfl c1
    exact j_28  
  · have f7 : 0 ≤ p1.toInt := i_nlt (a := p1.toInt) (b := 0) rfl rfl c1
    refine ⟨fun c9 => ?_, fun c9 => ?_⟩
    · have f8 : v_count.toInt ≤ p1.toInt := i_le (a := v_count.toInt) (b := p1.toInt) rfl rfl c9
      exact j_28  
    · have f9 : p1.toInt < v_count.toInt := i_nle (a := v_count.toInt) (b := p1.toInt) rfl rfl c9
      refine ⟨fun c13 => ?_, fun c13 => ?_⟩
      · have f10 : p2.toInt < 0 := i_lt (a := p2.toInt) (b := 0) rfl rfl c13
        exact j_28  
      · have f11 : 0 ≤ p2.toInt := i_nlt (a := p2.toInt) (b := 0) rfl rfl c13
        refine ⟨fun c21 => ?_, fun c21 => ?_⟩
        · have f12 : v_width.toInt ≤ p2.toInt := i_le (a := v_width.toInt) (b := p2.toInt) rfl rfl c21
          exact j_28  
        · have f13 : p2.toInt < v_width.toInt := i_nle (a := v_width.toInt) (b := p2.toInt) rfl rfl c21
          exact j_29 1 (by omega)
set_option maxHeartbeats 4000000 in
theorem ok_X9_leadsToLive {p1 : Int32} {v_count : Int32} {v_width : Int32} {v_goes : Nat → Int32} {v_live : Nat → Bool} {Q : Int32 → Prop} (a0 : 0 ≤ v_count.toInt) (a1 : v_count.toInt ≤ 60) (a2 : 0 ≤ v_width.toInt) (a3 : v_width.toInt ≤ 256) (hq : ∀ (r : Int32), ((r.toInt = 0) ∨ (r.toInt = 1)) → Q r) : w_X9_leadsToLive p1 v_count v_width v_goes v_live Q := by
  have q_t : (bz true).toInt = 1 := rfl
  have q_f : (bz false).toInt = 0 := rfl
  have q_0 : (0 : Int32).toInt = 0 := rfl
  have q_1 : (1 : Int32).toInt = 1 := rfl
  unfold w_X9_leadsToLive
  have j_2 : ∀ n_2 : Nat, ∀ (l2_2 : Int32), 0 ≤ l2_2.toInt → l2_2.toInt ≤ v_width.toInt → ((-1) * l2_2.toInt + 2147483648).toNat < n_2 → w_X9_leadsToLive_2 p1 v_count v_width v_goes v_live Q n_2 l2_2 := by
    intro n_2
    induction n_2 with
    | zero =>
      intro l2_2 f1 f2 hm_2
      exfalso; omega
    | succ n_2 ih_2 =>
      intro l2_2 f1 f2 hm_2
      unfold w_X9_leadsToLive_2
      unfold w_X9_leadsToLive_2B
      refine ⟨fun c7 => ?_, fun c7 => ?_⟩
      · have f3 : v_width.toInt ≤ l2_2.toInt := i_le (a := v_width.toInt) (b := l2_2.toInt) rfl rfl c7
        exact hq 0 (by omega)
      · have f4 : l2_2.toInt < v_width.toInt := i_nle (a := v_width.toInt) (b := l2_2.toInt) rfl rfl c7
        refine ok_X9_next (by omega) (by omega) (by omega) (by omega) (fun r13 => ?_)
        have j_38 : w_X9_leadsToLive_38 Q (w_X9_leadsToLive_2 p1 v_count v_width v_goes v_live Q n_2) l2_2 := by
          unfold w_X9_leadsToLive_38
          intro x38 ex38
          have f5 : x38.toInt = l2_2.toInt + 1 := i_add (a := l2_2.toInt) (b := 1) ex38 rfl rfl (by omega) (by omega)
          exact ih_2 x38 (by omega) (by omega) (by have h8_0 := i_rng l2_2; have h8_1 := i_rng x38; omega)
        refine ⟨fun c18 => ?_, fun c18 => ?_⟩
        · have f6 : r13.toInt < 0 := i_lt (a := r13.toInt) (b := 0) rfl rfl c18
          exact j_38  
        · have f7 : 0 ≤ r13.toInt := i_nlt (a := r13.toInt) (b := 0) rfl rfl c18
          refine ⟨fun c24 => ?_, fun c24 => ?_⟩
          · have f8 : 60 ≤ r13.toInt := i_le (a := 60) (b := r13.toInt) rfl rfl c24
            exact j_38  
          · have f9 : r13.toInt < 60 := i_nle (a := 60) (b := r13.toInt) rfl rfl c24
            refine ⟨i_in (by omega) (by omega), ?_⟩
            intro x32 ex32
            have f10 : (0 ≤ x32.toInt ∧ x32.toInt ≤ 1) := i_bz ex32
            refine ⟨fun c33 => ?_, fun c33 => ?_⟩
            · have f11 : x32.toInt = 0 := i_eq (a := x32.toInt) (b := 0) rfl rfl c33
              exact j_38  
            · have f12 : x32.toInt ≠ 0 := i_ne (a := x32.toInt) (b := 0) rfl rfl c33
              exact hq 1 (by omega)
  exact ⟨(2147483648 : Int).toNat + 1, j_2   ((2147483648 : Int).toNat + 1) 0 (by omega) (by omega) (by omega)⟩
set_option maxHeartbeats 4000000 in
theorem ok_X9_staysTogether {p1 : Int32} {p2 : Int32} {v_count : Int32} {v_width : Int32} {v_goes : Nat → Int32} {v_groups : Nat → Int32} {Q : Int32 → Prop} (a0 : 0 ≤ v_count.toInt) (a1 : v_count.toInt ≤ 60) (a2 : 0 ≤ v_width.toInt) (a3 : v_width.toInt ≤ 256) (hq : ∀ (r : Int32), ((r.toInt = 0) ∨ (r.toInt = 1)) → Q r) : w_X9_staysTogether p1 p2 v_count v_width v_goes v_groups Q := by
  have q_t : (bz true).toInt = 1 := rfl
  have q_f : (bz false).toInt = 0 := rfl
  have q_0 : (0 : Int32).toInt = 0 := rfl
  have q_1 : (1 : Int32).toInt = 1 := rfl
  unfold w_X9_staysTogether
  refine ok_X9_groupOf  (fun r2 f1 => ?_)
  refine ok_X9_groupOf  (fun r7 f2 => ?_)
  refine ⟨fun c10 => ?_, fun c10 => ?_⟩
  · have f3 : r2.toInt = r7.toInt := i_eq (a := r2.toInt) (b := r7.toInt) rfl rfl c10
    have j_17 : ∀ n_17 : Nat, ∀ (l3_17 : Int32), 0 ≤ l3_17.toInt → l3_17.toInt ≤ v_width.toInt → ((-1) * l3_17.toInt + 2147483648).toNat < n_17 → w_X9_staysTogether_17 p1 p2 v_count v_width v_goes v_groups Q n_17 l3_17 := by
      intro n_17
      induction n_17 with
      | zero =>
        intro l3_17 f4 f5 hm_17
        exfalso; omega
      | succ n_17 ih_17 =>
        intro l3_17 f4 f5 hm_17
        unfold w_X9_staysTogether_17
        unfold w_X9_staysTogether_17B
        refine ⟨fun c22 => ?_, fun c22 => ?_⟩
        · have f6 : v_width.toInt ≤ l3_17.toInt := i_le (a := v_width.toInt) (b := l3_17.toInt) rfl rfl c22
          exact hq 1 (by omega)
        · have f7 : l3_17.toInt < v_width.toInt := i_nle (a := v_width.toInt) (b := l3_17.toInt) rfl rfl c22
          refine ok_X9_next (by omega) (by omega) (by omega) (by omega) (fun r29 => ?_)
          refine ok_X9_groupOf  (fun r32 f8 => ?_)
          refine ok_X9_next (by omega) (by omega) (by omega) (by omega) (fun r39 => ?_)
          refine ok_X9_groupOf  (fun r42 f9 => ?_)
          refine ⟨fun c45 => ?_, fun c45 => ?_⟩
          · have f10 : r32.toInt = r42.toInt := i_eq (a := r32.toInt) (b := r42.toInt) rfl rfl c45
            intro x50 ex50
            have f11 : x50.toInt = l3_17.toInt + 1 := i_add (a := l3_17.toInt) (b := 1) ex50 rfl rfl (by omega) (by omega)
            exact ih_17 x50 (by omega) (by omega) (by have h8_0 := i_rng l3_17; have h8_1 := i_rng x50; omega)
          · have f12 : r32.toInt ≠ r42.toInt := i_ne (a := r32.toInt) (b := r42.toInt) rfl rfl c45
            exact hq 0 (by omega)
    exact ⟨(2147483648 : Int).toNat + 1, j_17   ((2147483648 : Int).toNat + 1) 0 (by omega) (by omega) (by omega)⟩
  · have f13 : r2.toInt ≠ r7.toInt := i_ne (a := r2.toInt) (b := r7.toInt) rfl rfl c10
    exact hq 0 (by omega)
set_option maxHeartbeats 4000000 in
theorem ok_X9_stateOf {p1 : Int64} {v_count : Int32} {v_positionCount : Int32} {v_follow : Nat → Int64} {v_states : Nat → Int64} {v_ahead : Nat → Int64} {Q : Int32 → Int32 → (Nat → Int64) → (Nat → Int64) → Prop} (a0 : 0 ≤ v_count.toInt) (a1 : v_count.toInt ≤ 60) (a2 : 0 ≤ v_positionCount.toInt) (a3 : v_positionCount.toInt ≤ 60) (hq : ∀ (r : Int32) (ov_count : Int32) (ov_states : Nat → Int64) (ov_ahead : Nat → Int64), v_count.toInt ≤ ov_count.toInt → 0 ≤ r.toInt + 1 → r.toInt ≤ 59 → 1 ≤ ov_count.toInt → ov_count.toInt ≤ 60 → Q r ov_count ov_states ov_ahead) : w_X9_stateOf p1 v_count v_positionCount v_follow v_states v_ahead Q := by
  have q_t : (bz true).toInt = 1 := rfl
  have q_f : (bz false).toInt = 0 := rfl
  have q_m1 : ((-1) : Int32).toInt = (-1) := rfl
  have q_1 : (1 : Int32).toInt = 1 := rfl
  unfold w_X9_stateOf
  have j_2 : ∀ n_2 : Nat, ∀ (l3_2 : Int32), 1 ≤ l3_2.toInt → l3_2.toInt ≤ 60 → l3_2.toInt ≤ v_count.toInt + 1 → ((-1) * l3_2.toInt + 60).toNat < n_2 → w_X9_stateOf_2 p1 v_positionCount v_follow Q v_count v_states v_ahead n_2 l3_2 := by
    intro n_2
    induction n_2 with
    | zero =>
      intro l3_2 f1 f2 f3 hm_2
      exfalso; omega
    | succ n_2 ih_2 =>
      intro l3_2 f1 f2 f3 hm_2
      unfold w_X9_stateOf_2
      unfold w_X9_stateOf_2B
      have j_35 : v_count.toInt ≤ l3_2.toInt → w_X9_stateOf_35 p1 v_positionCount v_follow Q v_count v_states v_ahead := by
        intro f4
        unfold w_X9_stateOf_35
        refine ⟨fun c41 => ?_, fun c41 => ?_⟩
        · have f5 : v_count.toInt < 60 := i_lt (a := v_count.toInt) (b := 60) rfl rfl c41
          refine ⟨i_in (by omega) (by omega), ?_⟩
          intro g55 eg55
          refine ok_X9_followOf (by omega) (by omega) (fun r66 => ?_)
          refine ⟨i_in (by omega) (by omega), ?_⟩
          intro g69 eg69
          intro x76 ex76
          have f6 : x76.toInt = v_count.toInt + 1 := i_add (a := v_count.toInt) (b := 1) ex76 rfl rfl (by omega) (by omega)
          intro x85 ex85
          have f7 : x85.toInt = x76.toInt - 1 := i_sub (a := x76.toInt) (b := 1) ex85 rfl rfl (by omega) (by omega)
          exact hq x85 x76 g55 g69 (by omega) (by omega) (by omega) (by omega) (by omega)
        · have f8 : 60 ≤ v_count.toInt := i_nlt (a := v_count.toInt) (b := 60) rfl rfl c41
          exact hq (-1) v_count v_states v_ahead (by omega) (by omega) (by omega) (by omega) (by omega)
      refine ⟨fun c7 => ?_, fun c7 => ?_⟩
      · have f9 : v_count.toInt ≤ l3_2.toInt := i_le (a := v_count.toInt) (b := l3_2.toInt) rfl rfl c7
        exact j_35  (by omega)
      · have f10 : l3_2.toInt < v_count.toInt := i_nle (a := v_count.toInt) (b := l3_2.toInt) rfl rfl c7
        refine ⟨fun c13 => ?_, fun c13 => ?_⟩
        · have f11 : 60 ≤ l3_2.toInt := i_le (a := 60) (b := l3_2.toInt) rfl rfl c13
          exfalso; omega
        · have f12 : l3_2.toInt < 60 := i_nle (a := 60) (b := l3_2.toInt) rfl rfl c13
          refine ⟨i_in (by omega) (by omega), ?_⟩
          intro y21 ey21
          intro x23 ex23
          have f13 : (0 ≤ x23.toInt + 1 ∧ x23.toInt ≤ 1) := by have h9 := i_cmp ex23; omega
          refine ⟨fun c24 => ?_, fun c24 => ?_⟩
          · have f14 : x23.toInt ≠ 0 := i_ne (a := x23.toInt) (b := 0) rfl rfl c24
            intro x29 ex29
            have f15 : x29.toInt = l3_2.toInt + 1 := i_add (a := l3_2.toInt) (b := 1) ex29 rfl rfl (by omega) (by omega)
            exact ih_2 x29 (by omega) (by omega) (by omega) (by have h8_0 := i_rng l3_2; have h8_1 := i_rng x29; omega)
          · have f16 : x23.toInt = 0 := i_eq (a := x23.toInt) (b := 0) rfl rfl c24
            exact hq l3_2 v_count v_states v_ahead (by omega) (by omega) (by omega) (by omega) (by omega)
  exact ⟨(59 : Int).toNat + 1, j_2   ((59 : Int).toNat + 1) 1 (by omega) (by omega) (by omega) (by omega)⟩
set_option maxHeartbeats 4000000 in
theorem ok_X9_fillState {p1 : Int32} {v_count : Int32} {v_positionCount : Int32} {v_width : Int32} {v_follow : Nat → Int64} {v_takers : Nat → Int64} {v_states : Nat → Int64} {v_ahead : Nat → Int64} {v_goes : Nat → Int32} {Q : Int32 → Int32 → (Nat → Int64) → (Nat → Int64) → (Nat → Int32) → Prop} (a0 : 0 ≤ v_count.toInt) (a1 : v_count.toInt ≤ 60) (a2 : 0 ≤ v_positionCount.toInt) (a3 : v_positionCount.toInt ≤ 60) (a4 : 0 ≤ v_width.toInt) (a5 : v_width.toInt ≤ 256) (a6 : 0 ≤ p1.toInt) (a7 : p1.toInt ≤ 59) (hq : ∀ (r : Int32) (ov_count : Int32) (ov_states : Nat → Int64) (ov_ahead : Nat → Int64) (ov_goes : Nat → Int32), ov_count.toInt ≤ 60 → v_count.toInt ≤ ov_count.toInt → 0 ≤ r.toInt → r.toInt ≤ 1 → Q r ov_count ov_states ov_ahead ov_goes) : w_X9_fillState p1 v_count v_positionCount v_width v_follow v_takers v_states v_ahead v_goes Q := by
  have q_t : (bz true).toInt = 1 := rfl
  have q_f : (bz false).toInt = 0 := rfl
  have q_0 : (0 : Int32).toInt = 0 := rfl
  have q_1 : (1 : Int32).toInt = 1 := rfl
  unfold w_X9_fillState
  have j_2 : ∀ n_2 : Nat, ∀ (l2_2 : Int32) (v_count_2 : Int32) (v_states_2 : Nat → Int64) (v_ahead_2 : Nat → Int64) (v_goes_2 : Nat → Int32), 0 ≤ l2_2.toInt → l2_2.toInt ≤ v_width.toInt → v_count.toInt ≤ v_count_2.toInt → v_count_2.toInt ≤ 60 → ((-1) * l2_2.toInt + 256).toNat < n_2 → w_X9_fillState_2 p1 v_positionCount v_width v_follow v_takers Q n_2 l2_2 v_count_2 v_states_2 v_ahead_2 v_goes_2 := by
    intro n_2
    induction n_2 with
    | zero =>
      intro l2_2 v_count_2 v_states_2 v_ahead_2 v_goes_2 f1 f2 f3 f4 hm_2
      exfalso; omega
    | succ n_2 ih_2 =>
      intro l2_2 v_count_2 v_states_2 v_ahead_2 v_goes_2 f1 f2 f3 f4 hm_2
      unfold w_X9_fillState_2
      unfold w_X9_fillState_2B
      refine ⟨fun c7 => ?_, fun c7 => ?_⟩
      · have f5 : v_width.toInt ≤ l2_2.toInt := i_le (a := v_width.toInt) (b := l2_2.toInt) rfl rfl c7
        exact hq 1 v_count_2 v_states_2 v_ahead_2 v_goes_2 (by omega) (by omega) (by omega) (by omega)
      · have f6 : l2_2.toInt < v_width.toInt := i_nle (a := v_width.toInt) (b := l2_2.toInt) rfl rfl c7
        refine ⟨i_in (by omega) (by omega), ?_⟩
        intro y16 ey16
        refine ⟨i_in (by omega) (by omega), ?_⟩
        intro y22 ey22
        intro y23 ey23
        refine ok_X9_stateOf (by omega) (by omega) (by omega) (by omega) (fun r24 r24_0 r24_1 r24_2 f7 f8 f9 f10 f11 => ?_)
        refine ⟨fun c30 => ?_, fun c30 => ?_⟩
        · have f12 : r24.toInt ≠ (-1) := i_ne (a := r24.toInt) (b := (-1)) rfl rfl c30
          intro x43 ex43
          have f13 : x43.toInt = p1.toInt * 256 := i_mul (a := p1.toInt) (b := 256) ex43 rfl rfl (by omega) (by omega)
          intro x45 ex45
          have f14 : x45.toInt = x43.toInt + l2_2.toInt := i_add (a := x43.toInt) (b := l2_2.toInt) ex45 rfl rfl (by omega) (by omega)
          refine ⟨i_in (by omega) (by omega), ?_⟩
          intro g47 eg47
          intro x48 ex48
          have f15 : x48.toInt = l2_2.toInt + 1 := i_add (a := l2_2.toInt) (b := 1) ex48 rfl rfl (by omega) (by omega)
          exact ih_2 x48 r24_0 r24_1 r24_2 g47 (by omega) (by omega) (by omega) (by omega) (by have h8_0 := i_rng l2_2; have h8_1 := i_rng x48; omega)
        · have f16 : r24.toInt = (-1) := i_eq (a := r24.toInt) (b := (-1)) rfl rfl c30
          exact hq 0 r24_0 r24_1 r24_2 v_goes_2 (by omega) (by omega) (by omega) (by omega)
  exact ⟨(256 : Int).toNat + 1, j_2   ((256 : Int).toNat + 1) 0 v_count v_states v_ahead v_goes (by omega) (by omega) (by omega) (by omega) (by omega)⟩
set_option maxHeartbeats 4000000 in
theorem ok_X9_numberPositions {v_program_count : Int32} {v_program_kinds : Nat → Int32} {v_positionOf : Nat → Int32} {v_pcOf : Nat → Int32} {Q : Int32 → (Nat → Int32) → (Nat → Int32) → Prop} (a0 : 0 ≤ v_program_count.toInt) (a1 : v_program_count.toInt ≤ 512) (hq : ∀ (ov_positionCount : Int32) (ov_positionOf : Nat → Int32) (ov_pcOf : Nat → Int32), 0 ≤ ov_positionCount.toInt + 1 → 0 ≤ ov_positionCount.toInt → ov_positionCount.toInt ≤ 60 → ov_positionCount.toInt ≤ 61 → ov_positionCount.toInt ≤ v_program_count.toInt → ov_positionCount.toInt ≤ v_program_count.toInt + 1 → Q ov_positionCount ov_positionOf ov_pcOf) : w_X9_numberPositions v_program_count v_program_kinds v_positionOf v_pcOf Q := by
  have q_t : (bz true).toInt = 1 := rfl
  have q_f : (bz false).toInt = 0 := rfl
  have q_0 : (0 : Int32).toInt = 0 := rfl
  unfold w_X9_numberPositions
  have j_7 : ∀ n_7 : Nat, ∀ (l1_7 : Int32) (v_positionCount_7 : Int32) (v_positionOf_7 : Nat → Int32) (v_pcOf_7 : Nat → Int32), l1_7.toInt ≤ v_program_count.toInt → v_positionCount_7.toInt ≤ l1_7.toInt → 0 ≤ v_positionCount_7.toInt → v_positionCount_7.toInt ≤ 60 → ((-1) * l1_7.toInt + 2147483648).toNat < n_7 → w_X9_numberPositions_7 v_program_count v_program_kinds Q n_7 l1_7 v_positionCount_7 v_positionOf_7 v_pcOf_7 := by
    intro n_7
    induction n_7 with
    | zero =>
      intro l1_7 v_positionCount_7 v_positionOf_7 v_pcOf_7 f1 f2 f3 f4 hm_7
      exfalso; omega
    | succ n_7 ih_7 =>
      intro l1_7 v_positionCount_7 v_positionOf_7 v_pcOf_7 f1 f2 f3 f4 hm_7
      unfold w_X9_numberPositions_7
      unfold w_X9_numberPositions_7B
      refine ok_X5_has (by omega) (by omega) (fun r12 f5 => ?_)
      refine ⟨fun c15 => ?_, fun c15 => ?_⟩
      · have f6 : r12.toInt = 0 := i_eq (a := r12.toInt) (b := 0) rfl rfl c15
        exact hq v_positionCount_7 v_positionOf_7 v_pcOf_7 (by omega) (by omega) (by omega) (by omega) (by omega) (by omega)
      · have f7 : r12.toInt ≠ 0 := i_ne (a := r12.toInt) (b := 0) rfl rfl c15
        refine ok_X5_kindOf (by omega) (by omega) (fun r23 f8 => ?_)
        have j_68 : ∀ (v_positionCount_68 : Int32) (v_positionOf_68 : Nat → Int32) (v_pcOf_68 : Nat → Int32), 0 ≤ v_positionCount_68.toInt → v_positionCount_68.toInt ≤ 60 → v_positionCount_7.toInt ≤ v_positionCount_68.toInt → v_positionCount_68.toInt ≤ v_positionCount_7.toInt + 1 → ((v_positionCount_68.toInt = v_positionCount_7.toInt) ∨ (v_positionCount_68.toInt = v_positionCount_7.toInt ∧ r23.toInt = 0 ∧ 60 ≤ v_positionCount_7.toInt) ∨ (r23.toInt = 0 ∧ v_positionCount_7.toInt ≤ 59 ∧ v_positionCount_68.toInt = v_positionCount_7.toInt + 1)) → w_X9_numberPositions_68 Q (w_X9_numberPositions_7 v_program_count v_program_kinds Q n_7) l1_7 v_positionCount_68 v_positionOf_68 v_pcOf_68 := by
          intro v_positionCount_68 v_positionOf_68 v_pcOf_68 f9 f10 f11 f12 f13
          unfold w_X9_numberPositions_68
          intro x68 ex68
          have f14 : x68.toInt = l1_7.toInt + 1 := i_add (a := l1_7.toInt) (b := 1) ex68 rfl rfl (by omega) (by omega)
          exact ih_7 x68 v_positionCount_68 v_positionOf_68 v_pcOf_68 (by omega) (by omega) (by omega) (by omega) (by have h8_0 := i_rng l1_7; have h8_1 := i_rng x68; omega)
        refine ⟨fun c26 => ?_, fun c26 => ?_⟩
        · have f15 : r23.toInt ≠ 0 := i_ne (a := r23.toInt) (b := 0) rfl rfl c26
          exact j_68 v_positionCount_7 v_positionOf_7 v_pcOf_7 (by omega) (by omega) (by omega) (by omega) (by omega)
        · have f16 : r23.toInt = 0 := i_eq (a := r23.toInt) (b := 0) rfl rfl c26
          refine ⟨fun c35 => ?_, fun c35 => ?_⟩
          · have f17 : 60 ≤ v_positionCount_7.toInt := i_le (a := 60) (b := v_positionCount_7.toInt) rfl rfl c35
            exact j_68 v_positionCount_7 v_positionOf_7 v_pcOf_7 (by omega) (by omega) (by omega) (by omega) (by omega)
          · have f18 : v_positionCount_7.toInt < 60 := i_nle (a := 60) (b := v_positionCount_7.toInt) rfl rfl c35
            refine ⟨i_in (by omega) (by omega), ?_⟩
            intro g47 eg47
            refine ⟨i_in (by omega) (by omega), ?_⟩
            intro g57 eg57
            intro x64 ex64
            have f19 : x64.toInt = v_positionCount_7.toInt + 1 := i_add (a := v_positionCount_7.toInt) (b := 1) ex64 rfl rfl (by omega) (by omega)
            exact j_68 x64 g47 g57 (by omega) (by omega) (by omega) (by omega) (by omega)
  exact ⟨(2147483648 : Int).toNat + 1, j_7   ((2147483648 : Int).toNat + 1) 0 0 v_positionOf v_pcOf (by omega) (by omega) (by omega) (by omega) (by omega)⟩
set_option maxHeartbeats 4000000 in
theorem ok_X9_push {p1 : Int32} {v_stamp : Int32} {v_stackCount : Int32} {v_seen : Nat → Int32} {v_stack : Nat → Int32} {Q : Int32 → (Nat → Int32) → (Nat → Int32) → Prop} (hq : ∀ (ov_stackCount : Int32) (ov_seen : Nat → Int32) (ov_stack : Nat → Int32), v_stackCount.toInt ≤ ov_stackCount.toInt → Q ov_stackCount ov_seen ov_stack) : w_X9_push p1 v_stamp v_stackCount v_seen v_stack Q := by
  have q_t : (bz true).toInt = 1 := rfl
  have q_f : (bz false).toInt = 0 := rfl
  unfold w_X9_push
  have j_73 : ∀ (v_stackCount_73 : Int32) (v_seen_73 : Nat → Int32) (v_stack_73 : Nat → Int32), v_stackCount.toInt ≤ v_stackCount_73.toInt → w_X9_push_73 Q v_stackCount_73 v_seen_73 v_stack_73 := by
    intro v_stackCount_73 v_seen_73 v_stack_73 f1
    unfold w_X9_push_73
    exact hq v_stackCount_73 v_seen_73 v_stack_73 (by omega)
  refine ⟨fun c1 => ?_, fun c1 => ?_⟩
  · have f2 : p1.toInt < 0 := i_lt (a := p1.toInt) (b := 0) rfl rfl c1
    exact j_73 v_stackCount v_seen v_stack (by omega)
  · have f3 : 0 ≤ p1.toInt := i_nlt (a := p1.toInt) (b := 0) rfl rfl c1
    refine ⟨fun c8 => ?_, fun c8 => ?_⟩
    · have f4 : 512 ≤ p1.toInt := i_le (a := 512) (b := p1.toInt) rfl rfl c8
      exact j_73 v_stackCount v_seen v_stack (by omega)
    · have f5 : p1.toInt < 512 := i_nle (a := 512) (b := p1.toInt) rfl rfl c8
      refine ⟨i_in (by omega) (by omega), ?_⟩
      intro x16 ex16
      refine ⟨fun c21 => ?_, fun c21 => ?_⟩
      · have f6 : x16.toInt = v_stamp.toInt := i_eq (a := x16.toInt) (b := v_stamp.toInt) rfl rfl c21
        exact j_73 v_stackCount v_seen v_stack (by omega)
      · have f7 : x16.toInt ≠ v_stamp.toInt := i_ne (a := x16.toInt) (b := v_stamp.toInt) rfl rfl c21
        refine ⟨fun c28 => ?_, fun c28 => ?_⟩
        · have f8 : v_stackCount.toInt < 0 := i_lt (a := v_stackCount.toInt) (b := 0) rfl rfl c28
          exact j_73 v_stackCount v_seen v_stack (by omega)
        · have f9 : 0 ≤ v_stackCount.toInt := i_nlt (a := v_stackCount.toInt) (b := 0) rfl rfl c28
          refine ⟨fun c40 => ?_, fun c40 => ?_⟩
          · have f10 : 512 ≤ v_stackCount.toInt := i_le (a := 512) (b := v_stackCount.toInt) rfl rfl c40
            exact j_73 v_stackCount v_seen v_stack (by omega)
          · have f11 : v_stackCount.toInt < 512 := i_nle (a := 512) (b := v_stackCount.toInt) rfl rfl c40
            refine ⟨i_in (by omega) (by omega), ?_⟩
            intro g52 eg52
            refine ⟨i_in (by omega) (by omega), ?_⟩
            intro g62 eg62
            intro x69 ex69
            have f12 : x69.toInt = v_stackCount.toInt + 1 := i_add (a := v_stackCount.toInt) (b := 1) ex69 rfl rfl (by omega) (by omega)
            exact j_73 x69 g52 g62 (by omega)
set_option maxHeartbeats 4000000 in
theorem ok_X9_markLive {v_count : Int32} {v_width : Int32} {v_ahead : Nat → Int64} {v_goes : Nat → Int32} {v_live : Nat → Bool} {Q : (Nat → Bool) → Prop} (a0 : 0 ≤ v_count.toInt) (a1 : v_count.toInt ≤ 60) (a2 : 0 ≤ v_width.toInt) (a3 : v_width.toInt ≤ 256) (hq : ∀ (ov_live : Nat → Bool), Q ov_live) : w_X9_markLive v_count v_width v_ahead v_goes v_live Q := by
  have q_t : (bz true).toInt = 1 := rfl
  have q_f : (bz false).toInt = 0 := rfl
  have q_0 : (0 : Int32).toInt = 0 := rfl
  have q_1 : (1 : Int32).toInt = 1 := rfl
  unfold w_X9_markLive
  have j_2 : ∀ n_2 : Nat, ∀ (l1_2 : Int32) (v_live_2 : Nat → Bool), 0 ≤ l1_2.toInt → l1_2.toInt ≤ v_count.toInt → ((-1) * l1_2.toInt + 2147483648).toNat < n_2 → w_X9_markLive_2 v_count v_width v_ahead v_goes Q n_2 l1_2 v_live_2 := by
    intro n_2
    induction n_2 with
    | zero =>
      intro l1_2 v_live_2 f1 f2 hm_2
      exfalso; omega
    | succ n_2 ih_2 =>
      intro l1_2 v_live_2 f1 f2 hm_2
      unfold w_X9_markLive_2
      unfold w_X9_markLive_2B
      refine ⟨fun c7 => ?_, fun c7 => ?_⟩
      · have f3 : v_count.toInt ≤ l1_2.toInt := i_le (a := v_count.toInt) (b := l1_2.toInt) rfl rfl c7
        have j_31 : ∀ n_31 : Nat, ∀ (l1_31 : Int32) (l2_31 : Int32) (v_live_31 : Nat → Bool), 0 ≤ l1_31.toInt → l1_31.toInt ≤ 1 → 0 ≤ l2_31.toInt → l2_31.toInt ≤ v_count.toInt → ((-1) * l2_31.toInt + 2147483648).toNat < n_31 → w_X9_markLive_31 v_count v_width v_goes Q n_31 l1_31 l2_31 v_live_31 := by
          intro n_31
          induction n_31 with
          | zero =>
            intro l1_31 l2_31 v_live_31 f4 f5 f6 f7 hm_31
            exfalso; omega
          | succ n_31 ih_31 =>
            intro l1_31 l2_31 v_live_31 f4 f5 f6 f7 hm_31
            unfold w_X9_markLive_31
            unfold w_X9_markLive_31B
            have j_93 : ((l1_31.toInt = 0) ∨ (v_count.toInt ≤ l2_31.toInt)) → w_X9_markLive_93 Q v_live_31 := by
              intro f8
              unfold w_X9_markLive_93
              exact hq v_live_31 
            refine ⟨fun c32 => ?_, fun c32 => ?_⟩
            · have f9 : l1_31.toInt = 0 := i_eq (a := l1_31.toInt) (b := 0) rfl rfl c32
              exact j_93  (by omega)
            · have f10 : l1_31.toInt ≠ 0 := i_ne (a := l1_31.toInt) (b := 0) rfl rfl c32
              refine ⟨fun c40 => ?_, fun c40 => ?_⟩
              · have f11 : v_count.toInt ≤ l2_31.toInt := i_le (a := v_count.toInt) (b := l2_31.toInt) rfl rfl c40
                exact j_93  (by omega)
              · have f12 : l2_31.toInt < v_count.toInt := i_nle (a := v_count.toInt) (b := l2_31.toInt) rfl rfl c40
                have j_47 : ∀ n_47 : Nat, ∀ (l1_47 : Int32) (l3_47 : Int32) (v_live_47 : Nat → Bool), 0 ≤ l1_47.toInt → l1_47.toInt ≤ 1 → l1_47.toInt ≤ l3_47.toInt → l3_47.toInt ≤ v_count.toInt → ((-1) * l3_47.toInt + 2147483648).toNat < n_47 → w_X9_markLive_47 v_count v_width v_goes Q (w_X9_markLive_31 v_count v_width v_goes Q n_31) l2_31 n_47 l1_47 l3_47 v_live_47 := by
                  intro n_47
                  induction n_47 with
                  | zero =>
                    intro l1_47 l3_47 v_live_47 f13 f14 f15 f16 hm_47
                    exfalso; omega
                  | succ n_47 ih_47 =>
                    intro l1_47 l3_47 v_live_47 f13 f14 f15 f16 hm_47
                    unfold w_X9_markLive_47
                    unfold w_X9_markLive_47B
                    refine ⟨fun c52 => ?_, fun c52 => ?_⟩
                    · have f17 : v_count.toInt ≤ l3_47.toInt := i_le (a := v_count.toInt) (b := l3_47.toInt) rfl rfl c52
                      intro x87 ex87
                      have f18 : x87.toInt = l2_31.toInt + 1 := i_add (a := l2_31.toInt) (b := 1) ex87 rfl rfl (by omega) (by omega)
                      exact ih_31 l1_47 x87 v_live_47 (by omega) (by omega) (by omega) (by omega) (by have h8_0 := i_rng l2_31; have h8_1 := i_rng x87; omega)
                    · have f19 : l3_47.toInt < v_count.toInt := i_nle (a := v_count.toInt) (b := l3_47.toInt) rfl rfl c52
                      refine ⟨i_in (by omega) (by omega), ?_⟩
                      intro x60 ex60
                      have f20 : (0 ≤ x60.toInt ∧ x60.toInt ≤ 1) := i_bz ex60
                      have j_81 : ∀ (l1_81 : Int32) (v_live_81 : Nat → Bool), l1_47.toInt ≤ l1_81.toInt → l1_81.toInt ≤ l1_47.toInt + 1 → ((l1_81.toInt = l1_47.toInt) ∨ (l1_81.toInt = l1_47.toInt ∧ x60.toInt = 0) ∨ (l1_81.toInt = 1 ∧ x60.toInt = 0)) → w_X9_markLive_81 Q (w_X9_markLive_31 v_count v_width v_goes Q n_31) (w_X9_markLive_47 v_count v_width v_goes Q (w_X9_markLive_31 v_count v_width v_goes Q n_31) l2_31 n_47) l1_81 l3_47 v_live_81 := by
                        intro l1_81 v_live_81 f21 f22 f23
                        unfold w_X9_markLive_81
                        intro x81 ex81
                        have f24 : x81.toInt = l3_47.toInt + 1 := i_add (a := l3_47.toInt) (b := 1) ex81 rfl rfl (by omega) (by omega)
                        exact ih_47 l1_81 x81 v_live_81 (by omega) (by omega) (by omega) (by omega) (by have h8_0 := i_rng l3_47; have h8_1 := i_rng x81; omega)
                      refine ⟨fun c61 => ?_, fun c61 => ?_⟩
                      · have f25 : x60.toInt ≠ 0 := i_ne (a := x60.toInt) (b := 0) rfl rfl c61
                        exact j_81 l1_47 v_live_47 (by omega) (by omega) (by omega)
                      · have f26 : x60.toInt = 0 := i_eq (a := x60.toInt) (b := 0) rfl rfl c61
                        refine ok_X9_leadsToLive (by omega) (by omega) (by omega) (by omega) (fun r66 f27 => ?_)
                        refine ⟨fun c69 => ?_, fun c69 => ?_⟩
                        · have f28 : r66.toInt = 0 := i_eq (a := r66.toInt) (b := 0) rfl rfl c69
                          exact j_81 l1_47 v_live_47 (by omega) (by omega) (by omega)
                        · have f29 : r66.toInt ≠ 0 := i_ne (a := r66.toInt) (b := 0) rfl rfl c69
                          refine ⟨i_in (by omega) (by omega), ?_⟩
                          intro g78 eg78
                          exact j_81 1 g78 (by omega) (by omega) (by omega)
                exact ⟨(2147483648 : Int).toNat + 1, j_47   ((2147483648 : Int).toNat + 1) 0 0 v_live_31 (by omega) (by omega) (by omega) (by omega) (by omega)⟩
        exact ⟨(2147483648 : Int).toNat + 1, j_31   ((2147483648 : Int).toNat + 1) 1 0 v_live_2 (by omega) (by omega) (by omega) (by omega) (by omega)⟩
      · have f30 : l1_2.toInt < v_count.toInt := i_nle (a := v_count.toInt) (b := l1_2.toInt) rfl rfl c7
        refine ok_X9_ends (by omega) (by omega) (fun r17 f31 => ?_)
        refine ⟨i_in (by omega) (by omega), ?_⟩
        intro g20 eg20
        intro x21 ex21
        have f32 : x21.toInt = l1_2.toInt + 1 := i_add (a := l1_2.toInt) (b := 1) ex21 rfl rfl (by omega) (by omega)
        exact ih_2 x21 g20 (by omega) (by omega) (by have h8_0 := i_rng l1_2; have h8_1 := i_rng x21; omega)
  exact ⟨(2147483648 : Int).toNat + 1, j_2   ((2147483648 : Int).toNat + 1) 0 v_live (by omega) (by omega) (by omega)⟩
set_option maxHeartbeats 4000000 in
theorem ok_X9_longestBeginning {p3 : Int32} {a2_count : Int32} {a2_items : Nat → Int32} {na2_items : Nat} {a1_count : Int32} {a1_begins : Nat → Int32} {v_count : Int32} {v_width : Int32} {v_ahead : Nat → Int64} {v_goes : Nat → Int32} {v_live : Nat → Bool} {Q : Int32 → (Nat → Bool) → Prop} (a0 : 0 ≤ a2_count.toInt) (a1 : a2_count.toInt ≤ (na2_items : Int)) (a2 : (na2_items : Int) ≤ 1000) (a3 : 0 ≤ a1_count.toInt) (a4 : a1_count.toInt ≤ 256) (a5 : 0 ≤ v_count.toInt) (a6 : v_count.toInt ≤ 60) (a7 : 0 ≤ v_width.toInt) (a8 : v_width.toInt ≤ 256) (hq : ∀ (r : Int32) (ov_live : Nat → Bool), Q r ov_live) : w_X9_longestBeginning p3 a2_count a2_items na2_items a1_count a1_begins v_count v_width v_ahead v_goes v_live Q := by
  have q_t : (bz true).toInt = 1 := rfl
  have q_f : (bz false).toInt = 0 := rfl
  have q_m1 : ((-1) : Int32).toInt = (-1) := rfl
  have q_0 : (0 : Int32).toInt = 0 := rfl
  unfold w_X9_longestBeginning
  refine ok_X9_markLive (by omega) (by omega) (by omega) (by omega) (fun r1_0 => ?_)
  intro x9 ex9
  have f1 : (0 ≤ x9.toInt ∧ x9.toInt ≤ 1) := i_bz ex9
  refine ⟨fun c10 => ?_, fun c10 => ?_⟩
  · have f2 : x9.toInt ≠ 0 := i_ne (a := x9.toInt) (b := 0) rfl rfl c10
    have j_24 : ∀ n_24 : Nat, ∀ (l4_24 : Int32) (l5_24 : Int32) (l6_24 : Int32), 0 ≤ l4_24.toInt → l4_24.toInt ≤ 59 → p3.toInt ≤ l6_24.toInt → ((-1) * l6_24.toInt + 2147483648).toNat < n_24 → w_X9_longestBeginning_24 a2_count a2_items na2_items a1_count a1_begins v_count v_width v_goes Q r1_0 n_24 l4_24 l5_24 l6_24 := by
      intro n_24
      induction n_24 with
      | zero =>
        intro l4_24 l5_24 l6_24 f3 f4 f5 hm_24
        exfalso; omega
      | succ n_24 ih_24 =>
        intro l4_24 l5_24 l6_24 f3 f4 f5 hm_24
        unfold w_X9_longestBeginning_24
        unfold w_X9_longestBeginning_24B
        have j_85 : ((a2_count.toInt ≤ l6_24.toInt) ∨ (l6_24.toInt + 1 ≤ a2_count.toInt)) → w_X9_longestBeginning_85 Q l5_24 r1_0 := by
          intro f6
          unfold w_X9_longestBeginning_85
          exact hq l5_24 r1_0 
        refine ⟨fun c30 => ?_, fun c30 => ?_⟩
        · have f7 : a2_count.toInt ≤ l6_24.toInt := i_le (a := a2_count.toInt) (b := l6_24.toInt) rfl rfl c30
          exact j_85  (by omega)
        · have f8 : l6_24.toInt < a2_count.toInt := i_nle (a := a2_count.toInt) (b := l6_24.toInt) rfl rfl c30
          refine ok_X7_at (by omega) (by omega) (by omega) (fun r40 f9 => ?_)
          refine ok_X0_classOf (by omega) (by omega) (fun r43 f10 f11 f12 f13 f14 f15 => ?_)
          refine ok_X9_next (by omega) (by omega) (by omega) (by omega) (fun r46 => ?_)
          refine ⟨fun c53 => ?_, fun c53 => ?_⟩
          · have f16 : r46.toInt < 0 := i_lt (a := r46.toInt) (b := 0) rfl rfl c53
            exact j_85  (by omega)
          · have f17 : 0 ≤ r46.toInt := i_nlt (a := r46.toInt) (b := 0) rfl rfl c53
            refine ⟨fun c60 => ?_, fun c60 => ?_⟩
            · have f18 : 60 ≤ r46.toInt := i_le (a := 60) (b := r46.toInt) rfl rfl c60
              exact j_85  (by omega)
            · have f19 : r46.toInt < 60 := i_nle (a := 60) (b := r46.toInt) rfl rfl c60
              refine ⟨i_in (by omega) (by omega), ?_⟩
              intro x69 ex69
              have f20 : (0 ≤ x69.toInt ∧ x69.toInt ≤ 1) := i_bz ex69
              refine ⟨fun c70 => ?_, fun c70 => ?_⟩
              · have f21 : x69.toInt ≠ 0 := i_ne (a := x69.toInt) (b := 0) rfl rfl c70
                intro x76 ex76
                intro x79 ex79
                have f22 : x79.toInt = l6_24.toInt + 1 := i_add (a := l6_24.toInt) (b := 1) ex79 rfl rfl (by have h8_1 := i_rng a2_count; have h8_2 := i_rng l6_24; have h8_3 := i_rng p3; have h8_4 := i_rng r40; omega) (by omega)
                exact ih_24 r46 x76 x79 (by omega) (by omega) (by omega) (by have h8_0 := i_rng l6_24; have h8_1 := i_rng x79; omega)
              · have f23 : x69.toInt = 0 := i_eq (a := x69.toInt) (b := 0) rfl rfl c70
                exact j_85  (by omega)
    exact ⟨((-1) * p3.toInt + 2147483648).toNat + 1, j_24   (((-1) * p3.toInt + 2147483648).toNat + 1) 0 0 p3 (by omega) (by omega) (by omega) (by omega)⟩
  · have f24 : x9.toInt = 0 := i_eq (a := x9.toInt) (b := 0) rfl rfl c10
    exact hq (-1) r1_0 
set_option maxHeartbeats 4000000 in
theorem ok_X9_refine {v_count : Int32} {v_width : Int32} {v_goes : Nat → Int32} {v_groups : Nat → Int32} {v_finer : Nat → Int32} {Q : Int32 → (Nat → Int32) → Prop} (a0 : 0 ≤ v_count.toInt) (a1 : v_count.toInt ≤ 60) (a2 : 0 ≤ v_width.toInt) (a3 : v_width.toInt ≤ 256) (hq : ∀ (r : Int32) (ov_finer : Nat → Int32), 0 ≤ r.toInt + 1 → 0 ≤ r.toInt → r.toInt ≤ v_count.toInt → r.toInt ≤ v_count.toInt + 1 → Q r ov_finer) : w_X9_refine v_count v_width v_goes v_groups v_finer Q := by
  have q_t : (bz true).toInt = 1 := rfl
  have q_f : (bz false).toInt = 0 := rfl
  have q_0 : (0 : Int32).toInt = 0 := rfl
  have q_1 : (1 : Int32).toInt = 1 := rfl
  unfold w_X9_refine
  have j_4 : ∀ n_4 : Nat, ∀ (l1_4 : Int32) (l2_4 : Int32) (v_finer_4 : Nat → Int32), 0 ≤ l1_4.toInt → l1_4.toInt ≤ l2_4.toInt → l2_4.toInt ≤ v_count.toInt → ((-1) * l2_4.toInt + 2147483648).toNat < n_4 → w_X9_refine_4 v_count v_width v_goes v_groups Q n_4 l1_4 l2_4 v_finer_4 := by
    intro n_4
    induction n_4 with
    | zero =>
      intro l1_4 l2_4 v_finer_4 f1 f2 f3 hm_4
      exfalso; omega
    | succ n_4 ih_4 =>
      intro l1_4 l2_4 v_finer_4 f1 f2 f3 hm_4
      unfold w_X9_refine_4
      unfold w_X9_refine_4B
      refine ⟨fun c9 => ?_, fun c9 => ?_⟩
      · have f4 : v_count.toInt ≤ l2_4.toInt := i_le (a := v_count.toInt) (b := l2_4.toInt) rfl rfl c9
        exact hq l1_4 v_finer_4 (by omega) (by omega) (by omega) (by omega)
      · have f5 : l2_4.toInt < v_count.toInt := i_nle (a := v_count.toInt) (b := l2_4.toInt) rfl rfl c9
        have j_14 : ∀ n_14 : Nat, ∀ (l3_14 : Int32), 0 ≤ l3_14.toInt → l3_14.toInt ≤ l2_4.toInt → ((-1) * l3_14.toInt + 2147483648).toNat < n_14 → w_X9_refine_14 v_count v_width v_goes v_groups Q (w_X9_refine_4 v_count v_width v_goes v_groups Q n_4) l1_4 l2_4 v_finer_4 n_14 l3_14 := by
          intro n_14
          induction n_14 with
          | zero =>
            intro l3_14 f6 f7 hm_14
            exfalso; omega
          | succ n_14 ih_14 =>
            intro l3_14 f6 f7 hm_14
            unfold w_X9_refine_14
            unfold w_X9_refine_14B
            have j_34 : ((l2_4.toInt ≤ l3_14.toInt) ∨ (l3_14.toInt + 1 ≤ l2_4.toInt)) → w_X9_refine_34 Q (w_X9_refine_4 v_count v_width v_goes v_groups Q n_4) l1_4 l2_4 l3_14 v_finer_4 := by
              intro f8
              unfold w_X9_refine_34
              have j_54 : ∀ (s0_54 : Int32), ((s0_54.toInt = l1_4.toInt ∧ l2_4.toInt ≤ l3_14.toInt) ∨ (l3_14.toInt + 1 ≤ l2_4.toInt)) → w_X9_refine_54 Q (w_X9_refine_4 v_count v_width v_goes v_groups Q n_4) s0_54 l2_4 l1_4 l2_4 l3_14 v_finer_4 := by
                intro s0_54 f9
                unfold w_X9_refine_54
                refine ⟨i_in (by omega) (by omega), ?_⟩
                intro g54 eg54
                have j_66 : ∀ (s0_66 : Int32), ((s0_66.toInt = 1 ∧ l2_4.toInt ≤ l3_14.toInt) ∨ (s0_66.toInt = 0 ∧ l3_14.toInt + 1 ≤ l2_4.toInt)) → w_X9_refine_66 Q (w_X9_refine_4 v_count v_width v_goes v_groups Q n_4) s0_66 l1_4 l2_4 g54 := by
                  intro s0_66 f10
                  unfold w_X9_refine_66
                  intro x66 ex66
                  have f11 : x66.toInt = l1_4.toInt + s0_66.toInt := i_add (a := l1_4.toInt) (b := s0_66.toInt) ex66 rfl rfl (by omega) (by omega)
                  intro x68 ex68
                  have f12 : x68.toInt = l2_4.toInt + 1 := i_add (a := l2_4.toInt) (b := 1) ex68 rfl rfl (by omega) (by omega)
                  exact ih_4 x66 x68 g54 (by omega) (by omega) (by omega) (by have h8_0 := i_rng l2_4; have h8_1 := i_rng x68; omega)
                refine ⟨fun c58 => ?_, fun c58 => ?_⟩
                · have f13 : l2_4.toInt ≤ l3_14.toInt := i_le (a := l2_4.toInt) (b := l3_14.toInt) rfl rfl c58
                  exact j_66 1 (by omega)
                · have f14 : l3_14.toInt < l2_4.toInt := i_nle (a := l2_4.toInt) (b := l3_14.toInt) rfl rfl c58
                  exact j_66 0 (by omega)
              refine ⟨fun c41 => ?_, fun c41 => ?_⟩
              · have f15 : l2_4.toInt ≤ l3_14.toInt := i_le (a := l2_4.toInt) (b := l3_14.toInt) rfl rfl c41
                exact j_54 l1_4 (by omega)
              · have f16 : l3_14.toInt < l2_4.toInt := i_nle (a := l2_4.toInt) (b := l3_14.toInt) rfl rfl c41
                refine ⟨i_in (by omega) (by omega), ?_⟩
                intro x49 ex49
                exact j_54 x49 (by omega)
            refine ⟨fun c16 => ?_, fun c16 => ?_⟩
            · have f17 : l2_4.toInt ≤ l3_14.toInt := i_le (a := l2_4.toInt) (b := l3_14.toInt) rfl rfl c16
              exact j_34  (by omega)
            · have f18 : l3_14.toInt < l2_4.toInt := i_nle (a := l2_4.toInt) (b := l3_14.toInt) rfl rfl c16
              refine ok_X9_staysTogether (by omega) (by omega) (by omega) (by omega) (fun r22 f19 => ?_)
              refine ⟨fun c25 => ?_, fun c25 => ?_⟩
              · have f20 : r22.toInt ≠ 0 := i_ne (a := r22.toInt) (b := 0) rfl rfl c25
                exact j_34  (by omega)
              · have f21 : r22.toInt = 0 := i_eq (a := r22.toInt) (b := 0) rfl rfl c25
                intro x28 ex28
                have f22 : x28.toInt = l3_14.toInt + 1 := i_add (a := l3_14.toInt) (b := 1) ex28 rfl rfl (by omega) (by omega)
                exact ih_14 x28 (by omega) (by omega) (by have h8_0 := i_rng l3_14; have h8_1 := i_rng x28; omega)
        exact ⟨(2147483648 : Int).toNat + 1, j_14   ((2147483648 : Int).toNat + 1) 0 (by omega) (by omega) (by omega)⟩
  exact ⟨(2147483648 : Int).toNat + 1, j_4   ((2147483648 : Int).toNat + 1) 0 0 v_finer (by omega) (by omega) (by omega) (by omega)⟩
set_option maxHeartbeats 4000000 in
theorem ok_X9_fewestStates {v_count : Int32} {v_width : Int32} {v_ahead : Nat → Int64} {v_goes : Nat → Int32} {v_groups : Nat → Int32} {v_finer : Nat → Int32} {Q : Int32 → (Nat → Int32) → (Nat → Int32) → Prop} (a0 : 0 ≤ v_count.toInt) (a1 : v_count.toInt ≤ 60) (a2 : 0 ≤ v_width.toInt) (a3 : v_width.toInt ≤ 256) (hq : ∀ (r : Int32) (ov_groups : Nat → Int32) (ov_finer : Nat → Int32), 0 ≤ r.toInt + 1 → 0 ≤ r.toInt → r.toInt ≤ 60 → r.toInt ≤ 61 → r.toInt ≤ v_count.toInt → r.toInt ≤ v_count.toInt + 1 → Q r ov_groups ov_finer) : w_X9_fewestStates v_count v_width v_ahead v_goes v_groups v_finer Q := by
  have q_t : (bz true).toInt = 1 := rfl
  have q_f : (bz false).toInt = 0 := rfl
  have q_0 : (0 : Int32).toInt = 0 := rfl
  have q_1 : (1 : Int32).toInt = 1 := rfl
  unfold w_X9_fewestStates
  have j_4 : ∀ n_4 : Nat, ∀ (l2_4 : Int32) (v_groups_4 : Nat → Int32), 0 ≤ l2_4.toInt → l2_4.toInt ≤ v_count.toInt → ((-1) * l2_4.toInt + 2147483648).toNat < n_4 → w_X9_fewestStates_4 v_count v_width v_ahead v_goes Q 0 v_finer n_4 l2_4 v_groups_4 := by
    intro n_4
    induction n_4 with
    | zero =>
      intro l2_4 v_groups_4 f1 f2 hm_4
      exfalso; omega
    | succ n_4 ih_4 =>
      intro l2_4 v_groups_4 f1 f2 hm_4
      unfold w_X9_fewestStates_4
      unfold w_X9_fewestStates_4B
      refine ⟨fun c9 => ?_, fun c9 => ?_⟩
      · have f3 : v_count.toInt ≤ l2_4.toInt := i_le (a := v_count.toInt) (b := l2_4.toInt) rfl rfl c9
        have j_39 : ∀ n_39 : Nat, ∀ (l1_39 : Int32) (l2_39 : Int32) (v_groups_39 : Nat → Int32) (v_finer_39 : Nat → Int32), 0 ≤ l1_39.toInt → l1_39.toInt ≤ v_count.toInt → 0 ≤ l2_39.toInt → l2_39.toInt ≤ v_count.toInt + 1 → ((-1) * l2_39.toInt + 61).toNat < n_39 → w_X9_fewestStates_39 v_count v_width v_goes Q n_39 l1_39 l2_39 v_groups_39 v_finer_39 := by
          intro n_39
          induction n_39 with
          | zero =>
            intro l1_39 l2_39 v_groups_39 v_finer_39 f4 f5 f6 f7 hm_39
            exfalso; omega
          | succ n_39 ih_39 =>
            intro l1_39 l2_39 v_groups_39 v_finer_39 f4 f5 f6 f7 hm_39
            unfold w_X9_fewestStates_39
            unfold w_X9_fewestStates_39B
            have j_83 : ∀ (v_groups_83 : Nat → Int32) (v_finer_83 : Nat → Int32), ((v_count.toInt + 1 ≤ l2_39.toInt) ∨ (l2_39.toInt ≤ v_count.toInt ∧ 0 ≤ l1_39.toInt + 1 ∧ 0 ≤ l1_39.toInt ∧ l1_39.toInt ≤ v_count.toInt ∧ l1_39.toInt ≤ v_count.toInt + 1)) → w_X9_fewestStates_83 Q l1_39 v_groups_83 v_finer_83 := by
              intro v_groups_83 v_finer_83 f8
              unfold w_X9_fewestStates_83
              exact hq l1_39 v_groups_83 v_finer_83 (by omega) (by omega) (by omega) (by omega) (by omega) (by omega)
            refine ⟨fun c44 => ?_, fun c44 => ?_⟩
            · have f9 : v_count.toInt < l2_39.toInt := i_lt (a := v_count.toInt) (b := l2_39.toInt) rfl rfl c44
              exact j_83 v_groups_39 v_finer_39 (by omega)
            · have f10 : l2_39.toInt ≤ v_count.toInt := i_nlt (a := v_count.toInt) (b := l2_39.toInt) rfl rfl c44
              refine ok_X9_refine (by omega) (by omega) (by omega) (by omega) (fun r48 r48_0 f11 f12 f13 f14 => ?_)
              refine ⟨(i_nn (a := 0) rfl (by omega)), (i_nn (a := 0) rfl (by omega)), (i_nn (a := 60) rfl (by omega)), i_cp (a := 0) (b := 60) rfl rfl (by omega) (by omega) (by omega), i_cp (a := 0) (b := 60) rfl rfl (by omega) (by omega) (by omega), ?_⟩
              intro g64 eg64
              refine ⟨fun c69 => ?_, fun c69 => ?_⟩
              · have f15 : r48.toInt ≠ l1_39.toInt := i_ne (a := r48.toInt) (b := l1_39.toInt) rfl rfl c69
                intro x77 ex77
                have f16 : x77.toInt = l2_39.toInt + 1 := i_add (a := l2_39.toInt) (b := 1) ex77 rfl rfl (by omega) (by omega)
                exact ih_39 r48 x77 g64 r48_0 (by omega) (by omega) (by omega) (by omega) (by have h8_0 := i_rng l2_39; have h8_1 := i_rng x77; omega)
              · have f17 : r48.toInt = l1_39.toInt := i_eq (a := r48.toInt) (b := l1_39.toInt) rfl rfl c69
                exact j_83 g64 r48_0 (by omega)
        exact ⟨(61 : Int).toNat + 1, j_39   ((61 : Int).toNat + 1) 0 0 v_groups_4 v_finer (by omega) (by omega) (by omega) (by omega) (by omega)⟩
      · have f18 : l2_4.toInt < v_count.toInt := i_nle (a := v_count.toInt) (b := l2_4.toInt) rfl rfl c9
        refine ok_X9_ends (by omega) (by omega) (fun r19 f19 => ?_)
        have j_30 : ∀ (s0_30 : Int32), ((s0_30.toInt = 0 ∧ r19.toInt = 0) ∨ (s0_30.toInt = 1)) → w_X9_fewestStates_30 Q (w_X9_fewestStates_4 v_count v_width v_ahead v_goes Q 0 v_finer n_4) s0_30 l2_4 l2_4 v_groups_4 := by
          intro s0_30 f20
          unfold w_X9_fewestStates_30
          refine ⟨i_in (by omega) (by omega), ?_⟩
          intro g30 eg30
          intro x31 ex31
          have f21 : x31.toInt = l2_4.toInt + 1 := i_add (a := l2_4.toInt) (b := 1) ex31 rfl rfl (by omega) (by omega)
          exact ih_4 x31 g30 (by omega) (by omega) (by have h8_0 := i_rng l2_4; have h8_1 := i_rng x31; omega)
        refine ⟨fun c22 => ?_, fun c22 => ?_⟩
        · have f22 : r19.toInt = 0 := i_eq (a := r19.toInt) (b := 0) rfl rfl c22
          exact j_30 0 (by omega)
        · have f23 : r19.toInt ≠ 0 := i_ne (a := r19.toInt) (b := 0) rfl rfl c22
          exact j_30 1 (by omega)
  exact ⟨(2147483648 : Int).toNat + 1, j_4   ((2147483648 : Int).toNat + 1) 0 v_groups (by omega) (by omega) (by omega)⟩
set_option maxHeartbeats 4000000 in
theorem ok_X9_reach {p1 : Int32} {v_stamp : Int32} {v_program_count : Int32} {v_program_kinds : Nat → Int32} {v_program_nexts : Nat → Int32} {v_program_others : Nat → Int32} {v_positionOf : Nat → Int32} {v_seen : Nat → Int32} {v_stack : Nat → Int32} {Q : Int64 → Int32 → Int32 → (Nat → Int32) → (Nat → Int32) → Prop} (a0 : 0 ≤ v_program_count.toInt) (a1 : v_program_count.toInt ≤ 512) (hq : ∀ (r : Int64) (ov_stamp : Int32) (ov_stackCount : Int32) (ov_seen : Nat → Int32) (ov_stack : Nat → Int32), 0 ≤ ov_stackCount.toInt + 1 → 0 ≤ ov_stackCount.toInt → Q r ov_stamp ov_stackCount ov_seen ov_stack) : w_X9_reach p1 v_stamp v_program_count v_program_kinds v_program_nexts v_program_others v_positionOf v_seen v_stack Q := by
  have q_t : (bz true).toInt = 1 := rfl
  have q_f : (bz false).toInt = 0 := rfl
  have q_m1 : ((-1) : Int32).toInt = (-1) := rfl
  have q_0 : (0 : Int32).toInt = 0 := rfl
  unfold w_X9_reach
  intro x8 ex8
  refine ok_X9_push  (fun r19_0 r19_1 r19_2 f1 => ?_)
  have j_25 : ∀ n_25 : Nat, ∀ (l2_25 : Int64) (l4_25 : Int32) (v_stackCount_25 : Int32) (v_seen_25 : Nat → Int32) (v_stack_25 : Nat → Int32), 0 ≤ l4_25.toInt → l4_25.toInt ≤ 512 → 0 ≤ v_stackCount_25.toInt → ((-1) * l4_25.toInt + 512).toNat < n_25 → w_X9_reach_25 v_program_count v_program_kinds v_program_nexts v_program_others v_positionOf Q x8 n_25 l2_25 l4_25 v_stackCount_25 v_seen_25 v_stack_25 := by
    intro n_25
    induction n_25 with
    | zero =>
      intro l2_25 l4_25 v_stackCount_25 v_seen_25 v_stack_25 f2 f3 f4 hm_25
      exfalso; omega
    | succ n_25 ih_25 =>
      intro l2_25 l4_25 v_stackCount_25 v_seen_25 v_stack_25 f2 f3 f4 hm_25
      unfold w_X9_reach_25
      unfold w_X9_reach_25B
      have j_177 : ((512 ≤ l4_25.toInt) ∨ (l4_25.toInt ≤ 511 ∧ v_stackCount_25.toInt ≤ 0) ∨ (l4_25.toInt ≤ 511 ∧ 1 ≤ v_stackCount_25.toInt ∧ 513 ≤ v_stackCount_25.toInt)) → w_X9_reach_177 Q l2_25 x8 v_stackCount_25 v_seen_25 v_stack_25 := by
        intro f5
        unfold w_X9_reach_177
        exact hq l2_25 x8 v_stackCount_25 v_seen_25 v_stack_25 (by omega) (by omega)
      refine ⟨fun c32 => ?_, fun c32 => ?_⟩
      · have f6 : 512 ≤ l4_25.toInt := i_le (a := 512) (b := l4_25.toInt) rfl rfl c32
        exact j_177  (by omega)
      · have f7 : l4_25.toInt < 512 := i_nle (a := 512) (b := l4_25.toInt) rfl rfl c32
        refine ⟨fun c39 => ?_, fun c39 => ?_⟩
        · have f8 : v_stackCount_25.toInt ≤ 0 := i_le (a := v_stackCount_25.toInt) (b := 0) rfl rfl c39
          exact j_177  (by omega)
        · have f9 : 0 < v_stackCount_25.toInt := i_nle (a := v_stackCount_25.toInt) (b := 0) rfl rfl c39
          refine ⟨fun c51 => ?_, fun c51 => ?_⟩
          · have f10 : 512 < v_stackCount_25.toInt := i_lt (a := 512) (b := v_stackCount_25.toInt) rfl rfl c51
            exact j_177  (by omega)
          · have f11 : v_stackCount_25.toInt ≤ 512 := i_nlt (a := 512) (b := v_stackCount_25.toInt) rfl rfl c51
            intro x60 ex60
            have f12 : x60.toInt = v_stackCount_25.toInt - 1 := i_sub (a := v_stackCount_25.toInt) (b := 1) ex60 rfl rfl (by omega) (by omega)
            refine ⟨i_in (by omega) (by omega), ?_⟩
            intro x72 ex72
            refine ok_X5_kindOf (by omega) (by omega) (fun r81 f13 => ?_)
            have j_171 : ∀ (l2_171 : Int64) (v_stackCount_171 : Int32) (v_seen_171 : Nat → Int32) (v_stack_171 : Nat → Int32), v_stackCount_25.toInt ≤ v_stackCount_171.toInt + 1 → w_X9_reach_171 Q (w_X9_reach_25 v_program_count v_program_kinds v_program_nexts v_program_others v_positionOf Q x8 n_25) l2_171 l4_25 v_stackCount_171 v_seen_171 v_stack_171 := by
              intro l2_171 v_stackCount_171 v_seen_171 v_stack_171 f14
              unfold w_X9_reach_171
              intro x171 ex171
              have f15 : x171.toInt = l4_25.toInt + 1 := i_add (a := l4_25.toInt) (b := 1) ex171 rfl rfl (by omega) (by omega)
              exact ih_25 l2_171 x171 v_stackCount_171 v_seen_171 v_stack_171 (by omega) (by omega) (by omega) (by have h8_0 := i_rng l4_25; have h8_1 := i_rng x171; omega)
            have j_119 : r81.toInt ≠ 0 → w_X9_reach_119 v_program_count v_program_nexts v_program_others x8 Q (w_X9_reach_25 v_program_count v_program_kinds v_program_nexts v_program_others v_positionOf Q x8 n_25) l2_25 l4_25 x72 r81 x60 v_seen_25 v_stack_25 := by
              intro f16
              unfold w_X9_reach_119
              refine ⟨fun c123 => ?_, fun c123 => ?_⟩
              · have f17 : r81.toInt ≠ 6 := i_ne (a := r81.toInt) (b := 6) rfl rfl c123
                have j_155 : ∀ (s0_155 : Int32), ((s0_155.toInt + 1 = 0) ∨ (r81.toInt = 4)) → w_X9_reach_155 v_program_count v_program_nexts x8 Q (w_X9_reach_25 v_program_count v_program_kinds v_program_nexts v_program_others v_positionOf Q x8 n_25) s0_155 l2_25 l4_25 x72 x60 v_seen_25 v_stack_25 := by
                  intro s0_155 f18
                  unfold w_X9_reach_155
                  refine ok_X9_push  (fun r155_0 r155_1 r155_2 f19 => ?_)
                  refine ok_X5_nextOf (by omega) (by omega) (fun r165 f20 => ?_)
                  refine ok_X9_push  (fun r168_0 r168_1 r168_2 f21 => ?_)
                  exact j_171 l2_25 r168_0 r168_1 r168_2 (by omega)
                refine ⟨fun c139 => ?_, fun c139 => ?_⟩
                · have f22 : r81.toInt ≠ 4 := i_ne (a := r81.toInt) (b := 4) rfl rfl c139
                  exact j_155 (-1) (by omega)
                · have f23 : r81.toInt = 4 := i_eq (a := r81.toInt) (b := 4) rfl rfl c139
                  refine ok_X5_otherOf (by omega) (by omega) (fun r148 f24 => ?_)
                  exact j_155 r148 (by omega)
              · have f25 : r81.toInt = 6 := i_eq (a := r81.toInt) (b := 6) rfl rfl c123
                intro y130 ey130
                exact j_171 y130 x60 v_seen_25 v_stack_25 (by omega)
            refine ⟨fun c88 => ?_, fun c88 => ?_⟩
            · have f26 : r81.toInt ≠ 0 := i_ne (a := r81.toInt) (b := 0) rfl rfl c88
              exact j_119  (by omega)
            · have f27 : r81.toInt = 0 := i_eq (a := r81.toInt) (b := 0) rfl rfl c88
              refine ⟨fun c93 => ?_, fun c93 => ?_⟩
              · have f28 : x72.toInt < 0 := i_lt (a := x72.toInt) (b := 0) rfl rfl c93
                exfalso; omega
              · have f29 : 0 ≤ x72.toInt := i_nlt (a := x72.toInt) (b := 0) rfl rfl c93
                refine ⟨fun c101 => ?_, fun c101 => ?_⟩
                · have f30 : 512 ≤ x72.toInt := i_le (a := 512) (b := x72.toInt) rfl rfl c101
                  exfalso; omega
                · have f31 : x72.toInt < 512 := i_nle (a := 512) (b := x72.toInt) rfl rfl c101
                  refine ⟨i_in (by omega) (by omega), ?_⟩
                  intro x112 ex112
                  intro y113 ey113
                  intro y114 ey114
                  exact j_171 y114 x60 v_seen_25 v_stack_25 (by omega)
  exact ⟨(512 : Int).toNat + 1, j_25   ((512 : Int).toNat + 1) 0 0 r19_0 r19_1 r19_2 (by omega) (by omega) (by omega) (by omega)⟩
set_option maxHeartbeats 4000000 in
theorem ok_X9_make {a2_count : Int32} {a2_begins : Nat → Int32} {v_count : Int32} {v_stamp : Int32} {v_stackCount : Int32} {v_program_start : Int32} {v_program_kinds : Nat → Int32} {v_program_subjects : Nat → Int32} {v_program_nexts : Nat → Int32} {v_program_others : Nat → Int32} {v_positionOf : Nat → Int32} {v_pcOf : Nat → Int32} {v_follow : Nat → Int64} {v_takers : Nat → Int64} {v_seen : Nat → Int32} {v_stack : Nat → Int32} {v_states : Nat → Int64} {v_ahead : Nat → Int64} {v_goes : Nat → Int32} {a1_there : Bool} {a1_count : Int32} {a1_captures : Int32} {a1_ranges : Int32} {a1_sort : Nat → Int32} {a1_end : Nat → Int32} {a1_before : Nat → Int32} {a1_last : Nat → Int32} {a1_value : Nat → Int32} {a1_low : Nat → Int32} {a1_high : Nat → Int32} {a1_withinCase : Nat → Bool} {a1_rangeBegin : Nat → Int32} {a1_rangeEnd : Nat → Int32} {Q : Int32 → Int32 → Int32 → Int32 → Int32 → Int32 → Int32 → Int32 → (Nat → Int32) → (Nat → Int32) → (Nat → Int32) → (Nat → Int32) → (Nat → Int32) → (Nat → Int32) → (Nat → Int64) → (Nat → Int64) → (Nat → Int32) → (Nat → Int32) → (Nat → Int64) → (Nat → Int64) → (Nat → Int32) → Prop} (a0 : 0 ≤ a2_count.toInt) (a1 : a2_count.toInt ≤ 256) (a2 : 0 ≤ v_count.toInt) (a3 : v_count.toInt ≤ 60) (a4 : 0 ≤ a1_count.toInt) (a5 : a1_count.toInt ≤ 256) (a6 : 0 ≤ a1_ranges.toInt) (a7 : a1_ranges.toInt ≤ 512) (b0 : rp (fun k v => -1 ≤ v ∧ v ≤ 255) a1_last 0 a1_count.toInt) (b1 : rp (fun k v => k < v ∧ v ≤ 256) a1_end 0 a1_count.toInt) (b2 : rp (fun k v => v < k ∧ -1 ≤ v) a1_before 0 a1_count.toInt) (hq : ∀ (r : Int32) (ov_count : Int32) (ov_positionCount : Int32) (ov_stamp : Int32) (ov_stackCount : Int32) (ov_width : Int32) (ov_program_start : Int32) (ov_program_count : Int32) (ov_program_kinds : Nat → Int32) (ov_program_subjects : Nat → Int32) (ov_program_nexts : Nat → Int32) (ov_program_others : Nat → Int32) (ov_positionOf : Nat → Int32) (ov_pcOf : Nat → Int32) (ov_follow : Nat → Int64) (ov_takers : Nat → Int64) (ov_seen : Nat → Int32) (ov_stack : Nat → Int32) (ov_states : Nat → Int64) (ov_ahead : Nat → Int64) (ov_goes : Nat → Int32), 0 ≤ ov_program_count.toInt → ov_program_count.toInt ≤ 512 → ((ov_width.toInt = 256 ∧ 256 ≤ a2_count.toInt) ∨ (ov_width.toInt = a2_count.toInt ∧ a2_count.toInt ≤ 256)) → 0 ≤ ov_positionCount.toInt + 1 → 0 ≤ ov_positionCount.toInt → ov_positionCount.toInt ≤ 60 → ov_positionCount.toInt ≤ 61 → ov_positionCount.toInt ≤ ov_program_count.toInt → ov_positionCount.toInt ≤ ov_program_count.toInt + 1 → 0 ≤ ov_width.toInt → ov_width.toInt ≤ 256 → 0 ≤ ov_stackCount.toInt + 1 → 0 ≤ ov_stackCount.toInt → 0 ≤ r.toInt + 1 → 0 ≤ r.toInt → r.toInt ≤ 1 → r.toInt ≤ 59 → r.toInt ≤ 60 → r.toInt ≤ 61 → r.toInt ≤ ov_positionCount.toInt + 1 → r.toInt ≤ ov_stackCount.toInt + 1 → r.toInt ≤ ov_width.toInt + 1 → r.toInt ≤ ov_program_count.toInt + 1 → r.toInt ≤ a2_count.toInt + 1 → r.toInt ≤ a1_count.toInt + 1 → r.toInt ≤ a1_ranges.toInt + 1 → r.toInt ≤ ov_count.toInt → 0 ≤ ov_count.toInt + 1 → 0 ≤ ov_count.toInt → 1 ≤ ov_count.toInt → ov_count.toInt ≤ 60 → ov_count.toInt ≤ 61 → Q r ov_count ov_positionCount ov_stamp ov_stackCount ov_width ov_program_start ov_program_count ov_program_kinds ov_program_subjects ov_program_nexts ov_program_others ov_positionOf ov_pcOf ov_follow ov_takers ov_seen ov_stack ov_states ov_ahead ov_goes) : w_X9_make a2_count a2_begins v_count v_stamp v_stackCount v_program_start v_program_kinds v_program_subjects v_program_nexts v_program_others v_positionOf v_pcOf v_follow v_takers v_seen v_stack v_states v_ahead v_goes a1_there a1_count a1_captures a1_ranges a1_sort a1_end a1_before a1_last a1_value a1_low a1_high a1_withinCase a1_rangeBegin a1_rangeEnd Q := by
  have q_t : (bz true).toInt = 1 := rfl
  have q_f : (bz false).toInt = 0 := rfl
  have q_0 : (0 : Int32).toInt = 0 := rfl
  have q_1 : (1 : Int32).toInt = 1 := rfl
  unfold w_X9_make
  refine ok_X5_write (by omega) (by omega) (by omega) (by omega) (rp_mono b0 (by omega) (by omega)) (rp_mono b1 (by omega) (by omega)) (rp_mono b2 (by omega) (by omega)) (fun r5_0 r5_1 r5_2 r5_3 r5_4 r5_5 f1 f2 => ?_)
  intro x16 ex16
  have f3 : ((x16.toInt = 256 ∧ 256 ≤ a2_count.toInt) ∨ (x16.toInt = a2_count.toInt ∧ a2_count.toInt ≤ 256)) := by have h9 := i_min (a := a2_count.toInt) (b := 256) ex16 rfl rfl; omega
  refine ok_X9_numberPositions (by omega) (by omega) (fun r23_0 r23_1 r23_2 f4 f5 f6 f7 f8 f9 => ?_)
  have j_28 : ∀ n_28 : Nat, ∀ (l3_28 : Int32) (v_stamp_28 : Int32) (v_stackCount_28 : Int32) (v_follow_28 : Nat → Int64) (v_seen_28 : Nat → Int32) (v_stack_28 : Nat → Int32), 0 ≤ l3_28.toInt → l3_28.toInt ≤ r23_0.toInt → ((-1) * l3_28.toInt + 2147483648).toNat < n_28 → w_X9_make_28 a2_count a2_begins a1_count a1_ranges a1_sort a1_value a1_low a1_high a1_withinCase a1_rangeBegin a1_rangeEnd Q v_count r23_0 x16 r5_0 r5_1 r5_2 r5_3 r5_4 r5_5 r23_1 r23_2 v_takers v_states v_ahead v_goes n_28 l3_28 v_stamp_28 v_stackCount_28 v_follow_28 v_seen_28 v_stack_28 := by
    intro n_28
    induction n_28 with
    | zero =>
      intro l3_28 v_stamp_28 v_stackCount_28 v_follow_28 v_seen_28 v_stack_28 f10 f11 hm_28
      exfalso; omega
    | succ n_28 ih_28 =>
      intro l3_28 v_stamp_28 v_stackCount_28 v_follow_28 v_seen_28 v_stack_28 f10 f11 hm_28
      unfold w_X9_make_28
      unfold w_X9_make_28B
      refine ⟨fun c33 => ?_, fun c33 => ?_⟩
      · have f12 : r23_0.toInt ≤ l3_28.toInt := i_le (a := r23_0.toInt) (b := l3_28.toInt) rfl rfl c33
        have j_67 : ∀ n_67 : Nat, ∀ (l3_67 : Int32) (v_takers_67 : Nat → Int64), 0 ≤ l3_67.toInt → l3_67.toInt ≤ a2_count.toInt → ((-1) * l3_67.toInt + 2147483648).toNat < n_67 → w_X9_make_67 a2_count a2_begins a1_count a1_ranges a1_sort a1_value a1_low a1_high a1_withinCase a1_rangeBegin a1_rangeEnd Q v_count r23_0 v_stamp_28 v_stackCount_28 x16 r5_0 r5_1 r5_2 r5_3 r5_4 r5_5 r23_1 r23_2 v_follow_28 v_seen_28 v_stack_28 v_states v_ahead v_goes n_67 l3_67 v_takers_67 := by
          intro n_67
          induction n_67 with
          | zero =>
            intro l3_67 v_takers_67 f13 f14 hm_67
            exfalso; omega
          | succ n_67 ih_67 =>
            intro l3_67 v_takers_67 f13 f14 hm_67
            unfold w_X9_make_67
            unfold w_X9_make_67B
            refine ⟨fun c72 => ?_, fun c72 => ?_⟩
            · have f15 : x16.toInt ≤ l3_67.toInt := i_le (a := x16.toInt) (b := l3_67.toInt) rfl rfl c72
              intro g107 eg107
              refine ok_X9_reach (by omega) (by omega) (fun r121 r121_0 r121_1 r121_2 r121_3 f16 f17 => ?_)
              intro g124 eg124
              have j_130 : ∀ n_130 : Nat, ∀ (l3_130 : Int32) (l4_130 : Int32) (v_count_130 : Int32) (v_states_130 : Nat → Int64) (v_ahead_130 : Nat → Int64) (v_goes_130 : Nat → Int32), 0 ≤ l3_130.toInt → l3_130.toInt ≤ 1 → 0 ≤ l4_130.toInt → l4_130.toInt ≤ v_count_130.toInt → 1 ≤ v_count_130.toInt → v_count_130.toInt ≤ 60 → ((-1) * l4_130.toInt + 60).toNat < n_130 → w_X9_make_130 Q r23_0 r121_0 r121_1 x16 r5_0 r5_1 r5_2 r5_3 r5_4 r5_5 r23_1 r23_2 v_follow_28 v_takers_67 r121_2 r121_3 n_130 l3_130 l4_130 v_count_130 v_states_130 v_ahead_130 v_goes_130 := by
                intro n_130
                induction n_130 with
                | zero =>
                  intro l3_130 l4_130 v_count_130 v_states_130 v_ahead_130 v_goes_130 f18 f19 f20 f21 f22 f23 hm_130
                  exfalso; omega
                | succ n_130 ih_130 =>
                  intro l3_130 l4_130 v_count_130 v_states_130 v_ahead_130 v_goes_130 f18 f19 f20 f21 f22 f23 hm_130
                  unfold w_X9_make_130
                  unfold w_X9_make_130B
                  have j_163 : ((l3_130.toInt = 0) ∨ (v_count_130.toInt ≤ l4_130.toInt)) → w_X9_make_163 Q l3_130 v_count_130 r23_0 r121_0 r121_1 x16 r5_0 r5_1 r5_2 r5_3 r5_4 r5_5 r23_1 r23_2 v_follow_28 v_takers_67 r121_2 r121_3 v_states_130 v_ahead_130 v_goes_130 := by
                    intro f24
                    unfold w_X9_make_163
                    refine ⟨i_01 (by omega) (by omega), ?_⟩
                    exact hq l3_130 v_count_130 r23_0 r121_0 r121_1 x16 r5_0 r5_1 r5_2 r5_3 r5_4 r5_5 r23_1 r23_2 v_follow_28 v_takers_67 r121_2 r121_3 v_states_130 v_ahead_130 v_goes_130 (by omega) (by omega) (by omega) (by omega) (by omega) (by omega) (by omega) (by omega) (by omega) (by omega) (by omega) (by omega) (by omega) (by omega) (by omega) (by omega) (by omega) (by omega) (by omega) (by omega) (by omega) (by omega) (by omega) (by omega) (by omega) (by omega) (by omega) (by omega) (by omega) (by omega) (by omega) (by omega)
                  refine ⟨fun c131 => ?_, fun c131 => ?_⟩
                  · have f25 : l3_130.toInt = 0 := i_eq (a := l3_130.toInt) (b := 0) rfl rfl c131
                    exact j_163  (by omega)
                  · have f26 : l3_130.toInt ≠ 0 := i_ne (a := l3_130.toInt) (b := 0) rfl rfl c131
                    refine ⟨fun c140 => ?_, fun c140 => ?_⟩
                    · have f27 : v_count_130.toInt ≤ l4_130.toInt := i_le (a := v_count_130.toInt) (b := l4_130.toInt) rfl rfl c140
                      exact j_163  (by omega)
                    · have f28 : l4_130.toInt < v_count_130.toInt := i_nle (a := v_count_130.toInt) (b := l4_130.toInt) rfl rfl c140
                      refine ⟨fun c147 => ?_, fun c147 => ?_⟩
                      · have f29 : 60 ≤ l4_130.toInt := i_le (a := 60) (b := l4_130.toInt) rfl rfl c147
                        exfalso; omega
                      · have f30 : l4_130.toInt < 60 := i_nle (a := 60) (b := l4_130.toInt) rfl rfl c147
                        refine ok_X9_fillState (by omega) (by omega) (by omega) (by omega) (by omega) (by omega) (by omega) (by omega) (fun r153 r153_0 r153_1 r153_2 r153_3 f31 f32 f33 f34 => ?_)
                        intro x157 ex157
                        have f35 : x157.toInt = l4_130.toInt + 1 := i_add (a := l4_130.toInt) (b := 1) ex157 rfl rfl (by omega) (by omega)
                        exact ih_130 r153 x157 r153_0 r153_1 r153_2 r153_3 (by omega) (by omega) (by omega) (by omega) (by omega) (by omega) (by have h8_0 := i_rng l4_130; have h8_1 := i_rng x157; omega)
              exact ⟨(60 : Int).toNat + 1, j_130   ((60 : Int).toNat + 1) 1 0 1 g107 g124 v_goes (by omega) (by omega) (by omega) (by omega) (by omega) (by omega) (by omega)⟩
            · have f36 : l3_67.toInt < x16.toInt := i_nle (a := x16.toInt) (b := l3_67.toInt) rfl rfl c72
              refine ok_X0_leastOf (by omega) (by omega) (fun r83 f37 => ?_)
              refine ok_X9_takersOf (by omega) (by omega) (by omega) (by omega) (by omega) (by omega) (by omega) (by omega) (fun r86 => ?_)
              refine ⟨i_in (by omega) (by omega), ?_⟩
              intro g89 eg89
              intro x90 ex90
              have f38 : x90.toInt = l3_67.toInt + 1 := i_add (a := l3_67.toInt) (b := 1) ex90 rfl rfl (by omega) (by omega)
              exact ih_67 x90 g89 (by omega) (by omega) (by have h8_0 := i_rng l3_67; have h8_1 := i_rng x90; omega)
        exact ⟨(2147483648 : Int).toNat + 1, j_67   ((2147483648 : Int).toNat + 1) 0 v_takers (by omega) (by omega) (by omega)⟩
      · have f39 : l3_28.toInt < r23_0.toInt := i_nle (a := r23_0.toInt) (b := l3_28.toInt) rfl rfl c33
        refine ⟨i_in (by omega) (by omega), ?_⟩
        intro x51 ex51
        refine ok_X5_nextOf (by omega) (by omega) (fun r52 f40 => ?_)
        refine ok_X9_reach (by omega) (by omega) (fun r55 r55_0 r55_1 r55_2 r55_3 f41 f42 => ?_)
        refine ⟨i_in (by omega) (by omega), ?_⟩
        intro g58 eg58
        intro x59 ex59
        have f43 : x59.toInt = l3_28.toInt + 1 := i_add (a := l3_28.toInt) (b := 1) ex59 rfl rfl (by omega) (by omega)
        exact ih_28 x59 r55_0 r55_1 g58 r55_2 r55_3 (by omega) (by omega) (by have h8_0 := i_rng l3_28; have h8_1 := i_rng x59; omega)
  exact ⟨(2147483648 : Int).toNat + 1, j_28   ((2147483648 : Int).toNat + 1) 0 v_stamp v_stackCount v_follow v_seen v_stack (by omega) (by omega) (by omega)⟩
