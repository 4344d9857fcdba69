set_option maxHeartbeats 4000000 in
theorem ok_X7_empty  {Q : Int32 → Bool → Prop} (hq : ∀ (ov_count : Int32) (ov_over : Bool), ov_count.toInt = 0 → (bz ov_over).toInt = 0 → Q ov_count ov_over) : w_X7_empty  Q := by
  have q_t : (bz true).toInt = 1 := rfl
  have q_f : (bz false).toInt = 0 := rfl
  have q_0 : (0 : Int32).toInt = 0 := rfl
  unfold w_X7_empty
  exact hq 0 false (by omega) (by omega)
set_option maxHeartbeats 4000000 in
theorem ok_X7_at {p1 : Int32} {v_count : Int32} {v_items : Nat → Int32} {nv_items : Nat} {Q : Int32 → Prop} (a0 : 0 ≤ v_count.toInt) (a1 : v_count.toInt ≤ (nv_items : Int)) (a2 : (nv_items : Int) ≤ 1000) (hq : ∀ (r : Int32), ((0 ≤ p1.toInt ∧ p1.toInt + 1 ≤ v_count.toInt ∧ p1.toInt + 1 ≤ (nv_items : Int)) ∨ (r.toInt + 1 = 0)) → Q r) : w_X7_at p1 v_count v_items nv_items Q := by
  have q_t : (bz true).toInt = 1 := rfl
  have q_f : (bz false).toInt = 0 := rfl
  have q_m1 : ((-1) : Int32).toInt = (-1) := rfl
  unfold w_X7_at
  have j_31 : ∀ (s0_31 : Int32), ((0 ≤ p1.toInt ∧ p1.toInt + 1 ≤ v_count.toInt ∧ p1.toInt + 1 ≤ (nv_items : Int)) ∨ (s0_31.toInt + 1 = 0)) → w_X7_at_31 Q s0_31 := by
    intro s0_31 f1
    unfold w_X7_at_31
    exact hq s0_31 (by omega)
  have j_30 : ((p1.toInt + 1 ≤ 0) ∨ (0 ≤ p1.toInt ∧ v_count.toInt ≤ p1.toInt)) → w_X7_at_30 Q := by
    intro f2
    unfold w_X7_at_30
    exact j_31 (-1) (by omega)
  refine ⟨fun c1 => ?_, fun c1 => ?_⟩
  · have f3 : p1.toInt < 0 := i_lt (a := p1.toInt) (b := 0) rfl rfl c1
    exact j_30  (by omega)
  · have f4 : 0 ≤ p1.toInt := i_nlt (a := p1.toInt) (b := 0) rfl rfl c1
    refine ⟨fun c9 => ?_, fun c9 => ?_⟩
    · have f5 : v_count.toInt ≤ p1.toInt := i_le (a := v_count.toInt) (b := p1.toInt) rfl rfl c9
      exact j_30  (by omega)
    · have f6 : p1.toInt < v_count.toInt := i_nle (a := v_count.toInt) (b := p1.toInt) rfl rfl c9
      intro x17 ex17
      have f7 : x17.toInt = (nv_items : Int) := i_len ex17 (by omega)
      refine ⟨fun c18 => ?_, fun c18 => ?_⟩
      · have f8 : x17.toInt ≤ p1.toInt := i_le (a := x17.toInt) (b := p1.toInt) rfl rfl c18
        exfalso; omega
      · have f9 : p1.toInt < x17.toInt := i_nle (a := x17.toInt) (b := p1.toInt) rfl rfl c18
        refine ⟨i_in (by omega) (by omega), ?_⟩
        intro x26 ex26
        exact j_31 x26 (by omega)
set_option maxHeartbeats 4000000 in
theorem ok_X7_add {p1 : Int32} {v_count : Int32} {v_over : Bool} {v_items : Nat → Int32} {nv_items : Nat} {Q : Int32 → Bool → (Nat → Int32) → Prop} (a0 : 0 ≤ v_count.toInt) (a1 : v_count.toInt ≤ (nv_items : Int)) (a2 : (nv_items : Int) ≤ 1000) (hq : ∀ (ov_count : Int32) (ov_over : Bool) (ov_items : Nat → Int32), 0 ≤ ov_count.toInt → ov_count.toInt ≤ (nv_items : Int) → v_count.toInt ≤ ov_count.toInt → ((v_count.toInt + 1 ≤ (nv_items : Int) ∧ ov_count.toInt = v_count.toInt + 1) ∨ (ov_count.toInt = v_count.toInt ∧ (nv_items : Int) ≤ v_count.toInt)) → Q ov_count ov_over ov_items) : w_X7_add p1 v_count v_over v_items nv_items Q := by
  have q_t : (bz true).toInt = 1 := rfl
  have q_f : (bz false).toInt = 0 := rfl
  unfold w_X7_add
  have j_47 : ∀ (v_count_47 : Int32) (v_over_47 : Bool) (v_items_47 : Nat → Int32), 0 ≤ v_count_47.toInt → v_count_47.toInt ≤ (nv_items : Int) → v_count.toInt ≤ v_count_47.toInt → ((v_count.toInt + 1 ≤ (nv_items : Int) ∧ v_count_47.toInt = v_count.toInt + 1) ∨ (v_count_47.toInt = v_count.toInt ∧ (nv_items : Int) ≤ v_count.toInt)) → w_X7_add_47 Q v_count_47 v_over_47 v_items_47 := by
    intro v_count_47 v_over_47 v_items_47 f1 f2 f3 f4
    unfold w_X7_add_47
    exact hq v_count_47 v_over_47 v_items_47 (by omega) (by omega) (by omega) (by omega)
  have j_42 : (nv_items : Int) ≤ v_count.toInt → w_X7_add_42 Q v_count v_over v_items := by
    intro f5
    unfold w_X7_add_42
    exact j_47 v_count true v_items (by omega) (by omega) (by omega) (by omega)
  refine ⟨fun c4 => ?_, fun c4 => ?_⟩
  · have f6 : v_count.toInt < 0 := i_lt (a := v_count.toInt) (b := 0) rfl rfl c4
    exfalso; omega
  · have f7 : 0 ≤ v_count.toInt := i_nlt (a := v_count.toInt) (b := 0) rfl rfl c4
    intro x15 ex15
    have f8 : x15.toInt = (nv_items : Int) := i_len ex15 (by omega)
    refine ⟨fun c16 => ?_, fun c16 => ?_⟩
    · have f9 : x15.toInt ≤ v_count.toInt := i_le (a := x15.toInt) (b := v_count.toInt) rfl rfl c16
      exact j_42  (by omega)
    · have f10 : v_count.toInt < x15.toInt := i_nle (a := x15.toInt) (b := v_count.toInt) rfl rfl c16
      refine ⟨i_in (by omega) (by omega), ?_⟩
      intro g28 eg28
      intro x35 ex35
      have f11 : x35.toInt = v_count.toInt + 1 := i_add (a := v_count.toInt) (b := 1) ex35 rfl rfl (by omega) (by omega)
      exact j_47 x35 v_over g28 (by omega) (by omega) (by omega) (by omega)
set_option maxHeartbeats 4000000 in
theorem ok_X7_addFrom {p2 : Int32} {p3 : Int32} {a1_count : Int32} {a1_items : Nat → Int32} {na1_items : Nat} {v_count : Int32} {v_over : Bool} {v_items : Nat → Int32} {nv_items : Nat} {Q : Int32 → Bool → (Nat → Int32) → Prop} (a0 : 0 ≤ a1_count.toInt) (a1 : a1_count.toInt ≤ (na1_items : Int)) (a2 : (na1_items : Int) ≤ 1000) (a3 : 0 ≤ v_count.toInt) (a4 : v_count.toInt ≤ (nv_items : Int)) (a5 : (nv_items : Int) ≤ 1000) (hq : ∀ (ov_count : Int32) (ov_over : Bool) (ov_items : Nat → Int32), 0 ≤ ov_count.toInt + 1 → 0 ≤ ov_count.toInt → ov_count.toInt ≤ 1000 → v_count.toInt ≤ ov_count.toInt → ov_count.toInt ≤ (nv_items : Int) → Q ov_count ov_over ov_items) : w_X7_addFrom p2 p3 a1_count a1_items na1_items v_count v_over v_items nv_items Q := by
  have q_t : (bz true).toInt = 1 := rfl
  have q_f : (bz false).toInt = 0 := rfl
  unfold w_X7_addFrom
  intro x2 ex2
  have f1 : ((x2.toInt = p2.toInt ∧ 0 ≤ p2.toInt) ∨ (x2.toInt = 0 ∧ p2.toInt ≤ 0)) := by have h9 := i_max (a := p2.toInt) (b := 0) ex2 rfl rfl; omega
  have j_7 : ∀ n_7 : Nat, ∀ (l4_7 : Int32) (v_count_7 : Int32) (v_over_7 : Bool) (v_items_7 : Nat → Int32), x2.toInt ≤ l4_7.toInt → v_count.toInt ≤ v_count_7.toInt → v_count_7.toInt ≤ (nv_items : Int) → ((-1) * l4_7.toInt + 2147483648).toNat < n_7 → w_X7_addFrom_7 p3 a1_count a1_items na1_items nv_items Q n_7 l4_7 v_count_7 v_over_7 v_items_7 := by
    intro n_7
    induction n_7 with
    | zero =>
      intro l4_7 v_count_7 v_over_7 v_items_7 f2 f3 f4 hm_7
      exfalso; omega
    | succ n_7 ih_7 =>
      intro l4_7 v_count_7 v_over_7 v_items_7 f2 f3 f4 hm_7
      unfold w_X7_addFrom_7
      unfold w_X7_addFrom_7B
      have j_38 : ((p3.toInt ≤ l4_7.toInt) ∨ (l4_7.toInt + 1 ≤ p3.toInt ∧ a1_count.toInt ≤ l4_7.toInt)) → w_X7_addFrom_38 Q v_count_7 v_over_7 v_items_7 := by
        intro f5
        unfold w_X7_addFrom_38
        exact hq v_count_7 v_over_7 v_items_7 (by omega) (by omega) (by omega) (by omega) (by omega)
      refine ⟨fun c10 => ?_, fun c10 => ?_⟩
      · have f6 : p3.toInt ≤ l4_7.toInt := i_le (a := p3.toInt) (b := l4_7.toInt) rfl rfl c10
        exact j_38  (by omega)
      · have f7 : l4_7.toInt < p3.toInt := i_nle (a := p3.toInt) (b := l4_7.toInt) rfl rfl c10
        refine ⟨fun c19 => ?_, fun c19 => ?_⟩
        · have f8 : a1_count.toInt ≤ l4_7.toInt := i_le (a := a1_count.toInt) (b := l4_7.toInt) rfl rfl c19
          exact j_38  (by omega)
        · have f9 : l4_7.toInt < a1_count.toInt := i_nle (a := a1_count.toInt) (b := l4_7.toInt) rfl rfl c19
          refine ok_X7_at (by omega) (by omega) (by omega) (fun r26 f10 => ?_)
          refine ok_X7_add (by omega) (by omega) (by omega) (fun r29_0 r29_1 r29_2 f11 f12 f13 f14 => ?_)
          intro x32 ex32
          have f15 : x32.toInt = l4_7.toInt + 1 := i_add (a := l4_7.toInt) (b := 1) ex32 rfl rfl (by omega) (by omega)
          exact ih_7 x32 r29_0 r29_1 r29_2 (by omega) (by omega) (by omega) (by have h8_0 := i_rng l4_7; have h8_1 := i_rng x32; omega)
  exact ⟨((-1) * x2.toInt + 2147483648).toNat + 1, j_7   (((-1) * x2.toInt + 2147483648).toNat + 1) x2 v_count v_over v_items (by omega) (by omega) (by omega) (by omega)⟩
set_option maxHeartbeats 4000000 in
theorem ok_X7_take {a1_count : Int32} {a1_items : Nat → Int32} {na1_items : Nat} {v_items : Nat → Int32} {nv_items : Nat} {Q : Int32 → Bool → (Nat → Int32) → Prop} (a0 : 0 ≤ a1_count.toInt) (a1 : a1_count.toInt ≤ (na1_items : Int)) (a2 : (na1_items : Int) ≤ 1000) (a3 : (nv_items : Int) ≤ 1000) (hq : ∀ (ov_count : Int32) (ov_over : Bool) (ov_items : Nat → Int32), 0 ≤ ov_count.toInt + 1 → 0 ≤ ov_count.toInt → ov_count.toInt ≤ 1000 → ov_count.toInt ≤ (nv_items : Int) → Q ov_count ov_over ov_items) : w_X7_take a1_count a1_items na1_items v_items nv_items Q := by
  have q_t : (bz true).toInt = 1 := rfl
  have q_f : (bz false).toInt = 0 := rfl
  have q_0 : (0 : Int32).toInt = 0 := rfl
  unfold w_X7_take
  refine ok_X7_empty  (fun r1_0 r1_1 f1 f2 => ?_)
  refine ok_X7_addFrom (by omega) (by omega) (by omega) (by omega) (by omega) (by omega) (fun r11_0 r11_1 r11_2 f3 f4 f5 f6 f7 => ?_)
  exact hq r11_0 r11_1 r11_2 (by omega) (by omega) (by omega) (by omega)
set_option maxHeartbeats 4000000 in
theorem ok_X7_turnRound {v_count : Int32} {v_items : Nat → Int32} {nv_items : Nat} {Q : (Nat → Int32) → Prop} (a0 : 0 ≤ v_count.toInt) (a1 : v_count.toInt ≤ (nv_items : Int)) (a2 : (nv_items : Int) ≤ 1000) (hq : ∀ (ov_items : Nat → Int32), Q ov_items) : w_X7_turnRound v_count v_items nv_items Q := by
  have q_t : (bz true).toInt = 1 := rfl
  have q_f : (bz false).toInt = 0 := rfl
  have q_0 : (0 : Int32).toInt = 0 := rfl
  unfold w_X7_turnRound
  intro x7 ex7
  have f1 : x7.toInt = v_count.toInt - 1 := i_sub (a := v_count.toInt) (b := 1) ex7 rfl rfl (by omega) (by omega)
  have j_9 : ∀ n_9 : Nat, ∀ (l1_9 : Int32) (l2_9 : Int32) (v_items_9 : Nat → Int32), 0 ≤ l1_9.toInt → l1_9.toInt ≤ v_count.toInt → 0 ≤ l2_9.toInt + 1 → l2_9.toInt + 1 ≤ v_count.toInt → ((-1) * l1_9.toInt + 2147483648).toNat < n_9 → w_X7_turnRound_9 nv_items Q n_9 l1_9 l2_9 v_items_9 := by
    intro n_9
    induction n_9 with
    | zero =>
      intro l1_9 l2_9 v_items_9 f2 f3 f4 f5 hm_9
      exfalso; omega
    | succ n_9 ih_9 =>
      intro l1_9 l2_9 v_items_9 f2 f3 f4 f5 hm_9
      unfold w_X7_turnRound_9
      unfold w_X7_turnRound_9B
      have j_58 : l2_9.toInt ≤ l1_9.toInt → w_X7_turnRound_58 Q v_items_9 := by
        intro f6
        unfold w_X7_turnRound_58
        exact hq v_items_9 
      refine ⟨fun c11 => ?_, fun c11 => ?_⟩
      · have f7 : l2_9.toInt ≤ l1_9.toInt := i_le (a := l2_9.toInt) (b := l1_9.toInt) rfl rfl c11
        exact j_58  (by omega)
      · have f8 : l1_9.toInt < l2_9.toInt := i_nle (a := l2_9.toInt) (b := l1_9.toInt) rfl rfl c11
        intro x19 ex19
        have f9 : x19.toInt = (nv_items : Int) := i_len ex19 (by omega)
        refine ⟨fun c20 => ?_, fun c20 => ?_⟩
        · have f10 : x19.toInt ≤ l2_9.toInt := i_le (a := x19.toInt) (b := l2_9.toInt) rfl rfl c20
          exfalso; omega
        · have f11 : l2_9.toInt < x19.toInt := i_nle (a := x19.toInt) (b := l2_9.toInt) rfl rfl c20
          refine ⟨i_in (by omega) (by omega), ?_⟩
          intro x28 ex28
          refine ⟨i_in (by omega) (by omega), ?_⟩
          intro x40 ex40
          refine ⟨i_in (by omega) (by omega), ?_⟩
          intro g41 eg41
          refine ⟨i_in (by omega) (by omega), ?_⟩
          intro g48 eg48
          intro x49 ex49
          have f12 : x49.toInt = l1_9.toInt + 1 := i_add (a := l1_9.toInt) (b := 1) ex49 rfl rfl (by omega) (by omega)
          intro x52 ex52
          have f13 : x52.toInt = l2_9.toInt + (-1) := i_add (a := l2_9.toInt) (b := (-1)) ex52 rfl rfl (by omega) (by omega)
          exact ih_9 x49 x52 g48 (by omega) (by omega) (by omega) (by omega) (by have h8_0 := i_rng l1_9; have h8_1 := i_rng x49; omega)
  exact ⟨(2147483648 : Int).toNat + 1, j_9   ((2147483648 : Int).toNat + 1) 0 x7 v_items (by omega) (by omega) (by omega) (by omega) (by omega)⟩
set_option maxHeartbeats 4000000 in
theorem ok_X10_rangeCount {v_ranges : Int32} {Q : Int32 → Prop} (a0 : 0 ≤ v_ranges.toInt) (a1 : v_ranges.toInt ≤ 512) (hq : ∀ (r : Int32), r.toInt = v_ranges.toInt → Q r) : w_X10_rangeCount v_ranges Q := by
  have q_t : (bz true).toInt = 1 := rfl
  have q_f : (bz false).toInt = 0 := rfl
  unfold w_X10_rangeCount
  exact hq v_ranges (by omega)
set_option maxHeartbeats 4000000 in
theorem ok_X10_sortOf {p1 : Int32} {v_count : Int32} {v_sort : Nat → Int32} {Q : Int32 → Prop} (a0 : 0 ≤ v_count.toInt) (a1 : v_count.toInt ≤ 256) (hq : ∀ (r : Int32), ((0 ≤ p1.toInt ∧ p1.toInt + 1 ≤ v_count.toInt) ∨ (r.toInt = 5)) → Q r) : w_X10_sortOf p1 v_count v_sort Q := by
  have q_t : (bz true).toInt = 1 := rfl
  have q_f : (bz false).toInt = 0 := rfl
  have q_5 : (5 : Int32).toInt = 5 := rfl
  unfold w_X10_sortOf
  have j_22 : ∀ (s0_22 : Int32), ((0 ≤ p1.toInt ∧ p1.toInt + 1 ≤ v_count.toInt) ∨ (s0_22.toInt = 5)) → w_X10_sortOf_22 Q s0_22 := by
    intro s0_22 f1
    unfold w_X10_sortOf_22
    exact hq s0_22 (by omega)
  have j_21 : ((p1.toInt + 1 ≤ 0) ∨ (0 ≤ p1.toInt ∧ v_count.toInt ≤ p1.toInt)) → w_X10_sortOf_21 Q := by
    intro f2
    unfold w_X10_sortOf_21
    exact j_22 5 (by omega)
  refine ⟨fun c1 => ?_, fun c1 => ?_⟩
  · have f3 : p1.toInt < 0 := i_lt (a := p1.toInt) (b := 0) rfl rfl c1
    exact j_21  (by omega)
  · have f4 : 0 ≤ p1.toInt := i_nlt (a := p1.toInt) (b := 0) rfl rfl c1
    refine ⟨fun c9 => ?_, fun c9 => ?_⟩
    · have f5 : v_count.toInt ≤ p1.toInt := i_le (a := v_count.toInt) (b := p1.toInt) rfl rfl c9
      exact j_21  (by omega)
    · have f6 : p1.toInt < v_count.toInt := i_nle (a := v_count.toInt) (b := p1.toInt) rfl rfl c9
      refine ⟨i_in (by omega) (by omega), ?_⟩
      intro x17 ex17
      exact j_22 x17 (by omega)
set_option maxHeartbeats 4000000 in
theorem ok_X10_takesOneSign {p1 : Int32} {v_count : Int32} {v_sort : Nat → Int32} {Q : Int32 → Prop} (a0 : 0 ≤ v_count.toInt) (a1 : v_count.toInt ≤ 256) (hq : ∀ (r : Int32), 0 ≤ r.toInt → r.toInt ≤ 1 → Q r) : w_X10_takesOneSign p1 v_count v_sort Q := by
  have q_t : (bz true).toInt = 1 := rfl
  have q_f : (bz false).toInt = 0 := rfl
  have q_0 : (0 : Int32).toInt = 0 := rfl
  have q_1 : (1 : Int32).toInt = 1 := rfl
  unfold w_X10_takesOneSign
  refine ok_X10_sortOf (by omega) (by omega) (fun r2 f1 => ?_)
  have j_14 : ∀ (s0_14 : Int32), ((s0_14.toInt = 0 ∧ 3 ≤ r2.toInt) ∨ (s0_14.toInt = 1 ∧ r2.toInt ≤ 2)) → w_X10_takesOneSign_14 Q s0_14 := by
    intro s0_14 f2
    unfold w_X10_takesOneSign_14
    refine ⟨i_01 (by omega) (by omega), ?_⟩
    exact hq s0_14 (by omega) (by omega)
  refine ⟨fun c6 => ?_, fun c6 => ?_⟩
  · have f3 : 2 < r2.toInt := i_lt (a := 2) (b := r2.toInt) rfl rfl c6
    exact j_14 0 (by omega)
  · have f4 : r2.toInt ≤ 2 := i_nlt (a := 2) (b := r2.toInt) rfl rfl c6
    exact j_14 1 (by omega)
set_option maxHeartbeats 4000000 in
theorem ok_X10_has {p1 : Int32} {v_count : Int32} {Q : Int32 → Prop} (a0 : 0 ≤ v_count.toInt) (a1 : v_count.toInt ≤ 256) (hq : ∀ (r : Int32), ((r.toInt = 1 ∧ 0 ≤ p1.toInt ∧ p1.toInt + 1 ≤ v_count.toInt) ∨ (r.toInt = 0)) → Q r) : w_X10_has p1 v_count Q := by
  have q_t : (bz true).toInt = 1 := rfl
  have q_f : (bz false).toInt = 0 := rfl
  have q_0 : (0 : Int32).toInt = 0 := rfl
  have q_1 : (1 : Int32).toInt = 1 := rfl
  unfold w_X10_has
  have j_17 : ∀ (s0_17 : Int32), ((s0_17.toInt = 1 ∧ 0 ≤ p1.toInt ∧ p1.toInt + 1 ≤ v_count.toInt) ∨ (s0_17.toInt = 0)) → w_X10_has_17 Q s0_17 := by
    intro s0_17 f1
    unfold w_X10_has_17
    refine ⟨i_01 (by omega) (by omega), ?_⟩
    exact hq s0_17 (by omega)
  have j_16 : ((p1.toInt + 1 ≤ 0) ∨ (0 ≤ p1.toInt ∧ v_count.toInt ≤ p1.toInt)) → w_X10_has_16 Q := by
    intro f2
    unfold w_X10_has_16
    exact j_17 0 (by omega)
  refine ⟨fun c1 => ?_, fun c1 => ?_⟩
  · have f3 : p1.toInt < 0 := i_lt (a := p1.toInt) (b := 0) rfl rfl c1
    exact j_16  (by omega)
  · have f4 : 0 ≤ p1.toInt := i_nlt (a := p1.toInt) (b := 0) rfl rfl c1
    refine ⟨fun c9 => ?_, fun c9 => ?_⟩
    · have f5 : v_count.toInt ≤ p1.toInt := i_le (a := v_count.toInt) (b := p1.toInt) rfl rfl c9
      exact j_16  (by omega)
    · have f6 : p1.toInt < v_count.toInt := i_nle (a := v_count.toInt) (b := p1.toInt) rfl rfl c9
      exact j_17 1 (by omega)
set_option maxHeartbeats 4000000 in
theorem ok_X10_close {p1 : Int32} {v_count : Int32} {v_end : Nat → Int32} {Q : (Nat → Int32) → Prop} (a0 : 0 ≤ v_count.toInt) (a1 : v_count.toInt ≤ 256) (b0 : rp (fun k v => k < v ∧ v ≤ 256) v_end 0 v_count.toInt) (hq : ∀ (ov_end : Nat → Int32), rp (fun k v => k < v ∧ v ≤ 256) ov_end 0 v_count.toInt → Q ov_end) : w_X10_close p1 v_count v_end Q := by
  have q_t : (bz true).toInt = 1 := rfl
  have q_f : (bz false).toInt = 0 := rfl
  unfold w_X10_close
  refine ok_X10_has (by omega) (by omega) (fun r2 f1 => ?_)
  have j_18 : ∀ (v_end_18 : Nat → Int32), rp (fun k v => k < v ∧ v ≤ 256) v_end_18 0 v_count.toInt → w_X10_close_18 Q v_end_18 := by
    intro v_end_18 h2
    unfold w_X10_close_18
    exact hq v_end_18 (rp_mono h2 (by omega) (by omega))
  refine ⟨fun c5 => ?_, fun c5 => ?_⟩
  · have f3 : r2.toInt = 0 := i_eq (a := r2.toInt) (b := 0) rfl rfl c5
    exact j_18 v_end (rp_mono b0 (by omega) (by omega))
  · have f4 : r2.toInt ≠ 0 := i_ne (a := r2.toInt) (b := 0) rfl rfl c5
    refine ⟨i_in (by omega) (by omega), ?_⟩
    intro g17 eg17
    have h5 : rp (fun k v => k < v ∧ v ≤ 256) g17 0 v_count.toInt := rp_upd (P := (fun k v => k < v ∧ v ≤ 256)) (a := p1.toInt) (b := v_count.toInt) b0 eg17 rfl rfl (by omega) ⟨(by omega), (by omega)⟩
    exact j_18 g17 (rp_mono h5 (by omega) (by omega))
set_option maxHeartbeats 4000000 in
theorem ok_X10_reset  {Q : Bool → Int32 → Int32 → Int32 → Prop} (hq : ∀ (ov_there : Bool) (ov_count : Int32) (ov_captures : Int32) (ov_ranges : Int32), (bz ov_there).toInt = 0 → ov_count.toInt = 0 → ov_captures.toInt = 0 → ov_ranges.toInt = 0 → Q ov_there ov_count ov_captures ov_ranges) : w_X10_reset  Q := by
  have q_t : (bz true).toInt = 1 := rfl
  have q_f : (bz false).toInt = 0 := rfl
  have q_0 : (0 : Int32).toInt = 0 := rfl
  unfold w_X10_reset
  exact hq false 0 0 0 (by omega) (by omega) (by omega) (by omega)
set_option maxHeartbeats 4000000 in
theorem ok_X10_holderOf {p1 : Int32} {v_count : Int32} {v_holder : Nat → Int32} {Q : Int32 → Prop} (a0 : 0 ≤ v_count.toInt) (a1 : v_count.toInt ≤ 256) (b0 : rp (fun k v => v < k ∧ -1 ≤ v) v_holder 0 v_count.toInt) (hq : ∀ (r : Int32), ((0 ≤ p1.toInt ∧ p1.toInt + 1 ≤ v_count.toInt ∧ r.toInt + 1 ≤ p1.toInt ∧ 0 ≤ r.toInt + 1) ∨ (r.toInt + 1 = 0)) → Q r) : w_X10_holderOf p1 v_count v_holder Q := by
  have q_t : (bz true).toInt = 1 := rfl
  have q_f : (bz false).toInt = 0 := rfl
  have q_m1 : ((-1) : Int32).toInt = (-1) := rfl
  unfold w_X10_holderOf
  have j_22 : ∀ (s0_22 : Int32), ((0 ≤ p1.toInt ∧ p1.toInt + 1 ≤ v_count.toInt ∧ s0_22.toInt + 1 ≤ p1.toInt ∧ 0 ≤ s0_22.toInt + 1) ∨ (s0_22.toInt + 1 = 0)) → w_X10_holderOf_22 Q s0_22 := by
    intro s0_22 f1
    unfold w_X10_holderOf_22
    exact hq s0_22 (by omega)
  have j_21 : ((p1.toInt + 1 ≤ 0) ∨ (0 ≤ p1.toInt ∧ v_count.toInt ≤ p1.toInt)) → w_X10_holderOf_21 Q := by
    intro f2
    unfold w_X10_holderOf_21
    exact j_22 (-1) (by omega)
  refine ⟨fun c1 => ?_, fun c1 => ?_⟩
  · have f3 : p1.toInt < 0 := i_lt (a := p1.toInt) (b := 0) rfl rfl c1
    exact j_21  (by omega)
  · have f4 : 0 ≤ p1.toInt := i_nlt (a := p1.toInt) (b := 0) rfl rfl c1
    refine ⟨fun c9 => ?_, fun c9 => ?_⟩
    · have f5 : v_count.toInt ≤ p1.toInt := i_le (a := v_count.toInt) (b := p1.toInt) rfl rfl c9
      exact j_21  (by omega)
    · have f6 : p1.toInt < v_count.toInt := i_nle (a := v_count.toInt) (b := p1.toInt) rfl rfl c9
      refine ⟨i_in (by omega) (by omega), ?_⟩
      intro x17 ex17
      have f7 : x17.toInt + 1 ≤ p1.toInt ∧ 0 ≤ x17.toInt + 1 := by have h9 := rp_get (P := (fun k v => v < k ∧ -1 ≤ v)) (a := p1.toInt) b0 ex17 rfl (by omega) (by omega) (by omega); omega
      exact j_22 x17 (by omega)
set_option maxHeartbeats 4000000 in
theorem ok_X10_valueOf {p1 : Int32} {v_count : Int32} {v_value : Nat → Int32} {Q : Int32 → Prop} (a0 : 0 ≤ v_count.toInt) (a1 : v_count.toInt ≤ 256) (hq : ∀ (r : Int32), ((0 ≤ p1.toInt ∧ p1.toInt + 1 ≤ v_count.toInt) ∨ (r.toInt = 0)) → Q r) : w_X10_valueOf p1 v_count v_value Q := by
  have q_t : (bz true).toInt = 1 := rfl
  have q_f : (bz false).toInt = 0 := rfl
  have q_0 : (0 : Int32).toInt = 0 := rfl
  unfold w_X10_valueOf
  have j_22 : ∀ (s0_22 : Int32), ((0 ≤ p1.toInt ∧ p1.toInt + 1 ≤ v_count.toInt) ∨ (s0_22.toInt = 0)) → w_X10_valueOf_22 Q s0_22 := by
    intro s0_22 f1
    unfold w_X10_valueOf_22
    exact hq s0_22 (by omega)
  have j_21 : ((p1.toInt + 1 ≤ 0) ∨ (0 ≤ p1.toInt ∧ v_count.toInt ≤ p1.toInt)) → w_X10_valueOf_21 Q := by
    intro f2
    unfold w_X10_valueOf_21
    exact j_22 0 (by omega)
  refine ⟨fun c1 => ?_, fun c1 => ?_⟩
  · have f3 : p1.toInt < 0 := i_lt (a := p1.toInt) (b := 0) rfl rfl c1
    exact j_21  (by omega)
  · have f4 : 0 ≤ p1.toInt := i_nlt (a := p1.toInt) (b := 0) rfl rfl c1
    refine ⟨fun c9 => ?_, fun c9 => ?_⟩
    · have f5 : v_count.toInt ≤ p1.toInt := i_le (a := v_count.toInt) (b := p1.toInt) rfl rfl c9
      exact j_21  (by omega)
    · have f6 : p1.toInt < v_count.toInt := i_nle (a := v_count.toInt) (b := p1.toInt) rfl rfl c9
      refine ⟨i_in (by omega) (by omega), ?_⟩
      intro x17 ex17
      exact j_22 x17 (by omega)
set_option maxHeartbeats 4000000 in
theorem ok_X10_lowOf {p1 : Int32} {v_count : Int32} {v_low : Nat → Int32} {Q : Int32 → Prop} (a0 : 0 ≤ v_count.toInt) (a1 : v_count.toInt ≤ 256) (hq : ∀ (r : Int32), ((0 ≤ p1.toInt ∧ p1.toInt + 1 ≤ v_count.toInt) ∨ (r.toInt = 0)) → Q r) : w_X10_lowOf p1 v_count v_low Q := by
  have q_t : (bz true).toInt = 1 := rfl
  have q_f : (bz false).toInt = 0 := rfl
  have q_0 : (0 : Int32).toInt = 0 := rfl
  unfold w_X10_lowOf
  have j_22 : ∀ (s0_22 : Int32), ((0 ≤ p1.toInt ∧ p1.toInt + 1 ≤ v_count.toInt) ∨ (s0_22.toInt = 0)) → w_X10_lowOf_22 Q s0_22 := by
    intro s0_22 f1
    unfold w_X10_lowOf_22
    exact hq s0_22 (by omega)
  have j_21 : ((p1.toInt + 1 ≤ 0) ∨ (0 ≤ p1.toInt ∧ v_count.toInt ≤ p1.toInt)) → w_X10_lowOf_21 Q := by
    intro f2
    unfold w_X10_lowOf_21
    exact j_22 0 (by omega)
  refine ⟨fun c1 => ?_, fun c1 => ?_⟩
  · have f3 : p1.toInt < 0 := i_lt (a := p1.toInt) (b := 0) rfl rfl c1
    exact j_21  (by omega)
  · have f4 : 0 ≤ p1.toInt := i_nlt (a := p1.toInt) (b := 0) rfl rfl c1
    refine ⟨fun c9 => ?_, fun c9 => ?_⟩
    · have f5 : v_count.toInt ≤ p1.toInt := i_le (a := v_count.toInt) (b := p1.toInt) rfl rfl c9
      exact j_21  (by omega)
    · have f6 : p1.toInt < v_count.toInt := i_nle (a := v_count.toInt) (b := p1.toInt) rfl rfl c9
      refine ⟨i_in (by omega) (by omega), ?_⟩
      intro x17 ex17
      exact j_22 x17 (by omega)
set_option maxHeartbeats 4000000 in
theorem ok_X10_highOf {p1 : Int32} {v_count : Int32} {v_high : Nat → Int32} {Q : Int32 → Prop} (a0 : 0 ≤ v_count.toInt) (a1 : v_count.toInt ≤ 256) (hq : ∀ (r : Int32), ((0 ≤ p1.toInt ∧ p1.toInt + 1 ≤ v_count.toInt) ∨ (r.toInt = 0)) → Q r) : w_X10_highOf p1 v_count v_high Q := by
  have q_t : (bz true).toInt = 1 := rfl
  have q_f : (bz false).toInt = 0 := rfl
  have q_0 : (0 : Int32).toInt = 0 := rfl
  unfold w_X10_highOf
  have j_22 : ∀ (s0_22 : Int32), ((0 ≤ p1.toInt ∧ p1.toInt + 1 ≤ v_count.toInt) ∨ (s0_22.toInt = 0)) → w_X10_highOf_22 Q s0_22 := by
    intro s0_22 f1
    unfold w_X10_highOf_22
    exact hq s0_22 (by omega)
  have j_21 : ((p1.toInt + 1 ≤ 0) ∨ (0 ≤ p1.toInt ∧ v_count.toInt ≤ p1.toInt)) → w_X10_highOf_21 Q := by
    intro f2
    unfold w_X10_highOf_21
    exact j_22 0 (by omega)
  refine ⟨fun c1 => ?_, fun c1 => ?_⟩
  · have f3 : p1.toInt < 0 := i_lt (a := p1.toInt) (b := 0) rfl rfl c1
    exact j_21  (by omega)
  · have f4 : 0 ≤ p1.toInt := i_nlt (a := p1.toInt) (b := 0) rfl rfl c1
    refine ⟨fun c9 => ?_, fun c9 => ?_⟩
    · have f5 : v_count.toInt ≤ p1.toInt := i_le (a := v_count.toInt) (b := p1.toInt) rfl rfl c9
      exact j_21  (by omega)
    · have f6 : p1.toInt < v_count.toInt := i_nle (a := v_count.toInt) (b := p1.toInt) rfl rfl c9
      refine ⟨i_in (by omega) (by omega), ?_⟩
      intro x17 ex17
      exact j_22 x17 (by omega)
set_option maxHeartbeats 4000000 in
theorem ok_X10_lastOf {p1 : Int32} {v_count : Int32} {v_last : Nat → Int32} {Q : Int32 → Prop} (a0 : 0 ≤ v_count.toInt) (a1 : v_count.toInt ≤ 256) (b0 : rp (fun k v => -1 ≤ v ∧ v ≤ 255) v_last 0 v_count.toInt) (hq : ∀ (r : Int32), ((0 ≤ p1.toInt ∧ p1.toInt + 1 ≤ v_count.toInt ∧ 0 ≤ r.toInt + 1 ∧ r.toInt ≤ 255) ∨ (r.toInt + 1 = 0)) → Q r) : w_X10_lastOf p1 v_count v_last Q := by
  have q_t : (bz true).toInt = 1 := rfl
  have q_f : (bz false).toInt = 0 := rfl
  have q_m1 : ((-1) : Int32).toInt = (-1) := rfl
  unfold w_X10_lastOf
  have j_22 : ∀ (s0_22 : Int32), ((0 ≤ p1.toInt ∧ p1.toInt + 1 ≤ v_count.toInt ∧ 0 ≤ s0_22.toInt + 1 ∧ s0_22.toInt ≤ 255) ∨ (s0_22.toInt + 1 = 0)) → w_X10_lastOf_22 Q s0_22 := by
    intro s0_22 f1
    unfold w_X10_lastOf_22
    exact hq s0_22 (by omega)
  have j_21 : ((p1.toInt + 1 ≤ 0) ∨ (0 ≤ p1.toInt ∧ v_count.toInt ≤ p1.toInt)) → w_X10_lastOf_21 Q := by
    intro f2
    unfold w_X10_lastOf_21
    exact j_22 (-1) (by omega)
  refine ⟨fun c1 => ?_, fun c1 => ?_⟩
  · have f3 : p1.toInt < 0 := i_lt (a := p1.toInt) (b := 0) rfl rfl c1
    exact j_21  (by omega)
  · have f4 : 0 ≤ p1.toInt := i_nlt (a := p1.toInt) (b := 0) rfl rfl c1
    refine ⟨fun c9 => ?_, fun c9 => ?_⟩
    · have f5 : v_count.toInt ≤ p1.toInt := i_le (a := v_count.toInt) (b := p1.toInt) rfl rfl c9
      exact j_21  (by omega)
    · have f6 : p1.toInt < v_count.toInt := i_nle (a := v_count.toInt) (b := p1.toInt) rfl rfl c9
      refine ⟨i_in (by omega) (by omega), ?_⟩
      intro x17 ex17
      have f7 : 0 ≤ x17.toInt + 1 ∧ x17.toInt ≤ 255 := by have h9 := rp_get (P := (fun k v => -1 ≤ v ∧ v ≤ 255)) (a := p1.toInt) b0 ex17 rfl (by omega) (by omega) (by omega); omega
      exact j_22 x17 (by omega)
set_option maxHeartbeats 4000000 in
theorem ok_X10_beforeOf {p1 : Int32} {v_count : Int32} {v_before : Nat → Int32} {Q : Int32 → Prop} (a0 : 0 ≤ v_count.toInt) (a1 : v_count.toInt ≤ 256) (b0 : rp (fun k v => v < k ∧ -1 ≤ v) v_before 0 v_count.toInt) (hq : ∀ (r : Int32), ((0 ≤ p1.toInt ∧ p1.toInt + 1 ≤ v_count.toInt ∧ r.toInt + 1 ≤ p1.toInt ∧ 0 ≤ r.toInt + 1) ∨ (r.toInt + 1 = 0)) → Q r) : w_X10_beforeOf p1 v_count v_before Q := by
  have q_t : (bz true).toInt = 1 := rfl
  have q_f : (bz false).toInt = 0 := rfl
  have q_m1 : ((-1) : Int32).toInt = (-1) := rfl
  unfold w_X10_beforeOf
  have j_22 : ∀ (s0_22 : Int32), ((0 ≤ p1.toInt ∧ p1.toInt + 1 ≤ v_count.toInt ∧ s0_22.toInt + 1 ≤ p1.toInt ∧ 0 ≤ s0_22.toInt + 1) ∨ (s0_22.toInt + 1 = 0)) → w_X10_beforeOf_22 Q s0_22 := by
    intro s0_22 f1
    unfold w_X10_beforeOf_22
    exact hq s0_22 (by omega)
  have j_21 : ((p1.toInt + 1 ≤ 0) ∨ (0 ≤ p1.toInt ∧ v_count.toInt ≤ p1.toInt)) → w_X10_beforeOf_21 Q := by
    intro f2
    unfold w_X10_beforeOf_21
    exact j_22 (-1) (by omega)
  refine ⟨fun c1 => ?_, fun c1 => ?_⟩
  · have f3 : p1.toInt < 0 := i_lt (a := p1.toInt) (b := 0) rfl rfl c1
    exact j_21  (by omega)
  · have f4 : 0 ≤ p1.toInt := i_nlt (a := p1.toInt) (b := 0) rfl rfl c1
    refine ⟨fun c9 => ?_, fun c9 => ?_⟩
    · have f5 : v_count.toInt ≤ p1.toInt := i_le (a := v_count.toInt) (b := p1.toInt) rfl rfl c9
      exact j_21  (by omega)
    · have f6 : p1.toInt < v_count.toInt := i_nle (a := v_count.toInt) (b := p1.toInt) rfl rfl c9
      refine ⟨i_in (by omega) (by omega), ?_⟩
      intro x17 ex17
      have f7 : x17.toInt + 1 ≤ p1.toInt ∧ 0 ≤ x17.toInt + 1 := by have h9 := rp_get (P := (fun k v => v < k ∧ -1 ≤ v)) (a := p1.toInt) b0 ex17 rfl (by omega) (by omega) (by omega); omega
      exact j_22 x17 (by omega)
set_option maxHeartbeats 4000000 in
theorem ok_X10_endOf {p1 : Int32} {v_count : Int32} {v_end : Nat → Int32} {Q : Int32 → Prop} (a0 : 0 ≤ v_count.toInt) (a1 : v_count.toInt ≤ 256) (b0 : rp (fun k v => k < v ∧ v ≤ 256) v_end 0 v_count.toInt) (hq : ∀ (r : Int32), ((0 ≤ p1.toInt ∧ p1.toInt + 1 ≤ v_count.toInt ∧ p1.toInt + 1 ≤ r.toInt ∧ r.toInt ≤ 256) ∨ (r.toInt = v_count.toInt)) → Q r) : w_X10_endOf p1 v_count v_end Q := by
  have q_t : (bz true).toInt = 1 := rfl
  have q_f : (bz false).toInt = 0 := rfl
  unfold w_X10_endOf
  have j_25 : ∀ (s0_25 : Int32), ((0 ≤ p1.toInt ∧ p1.toInt + 1 ≤ v_count.toInt ∧ p1.toInt + 1 ≤ s0_25.toInt ∧ s0_25.toInt ≤ 256) ∨ (s0_25.toInt = v_count.toInt)) → w_X10_endOf_25 Q s0_25 := by
    intro s0_25 f1
    unfold w_X10_endOf_25
    exact hq s0_25 (by omega)
  have j_21 : ((p1.toInt + 1 ≤ 0) ∨ (0 ≤ p1.toInt ∧ v_count.toInt ≤ p1.toInt)) → w_X10_endOf_21 v_count Q := by
    intro f2
    unfold w_X10_endOf_21
    exact j_25 v_count (by omega)
  refine ⟨fun c1 => ?_, fun c1 => ?_⟩
  · have f3 : p1.toInt < 0 := i_lt (a := p1.toInt) (b := 0) rfl rfl c1
    exact j_21  (by omega)
  · have f4 : 0 ≤ p1.toInt := i_nlt (a := p1.toInt) (b := 0) rfl rfl c1
    refine ⟨fun c9 => ?_, fun c9 => ?_⟩
    · have f5 : v_count.toInt ≤ p1.toInt := i_le (a := v_count.toInt) (b := p1.toInt) rfl rfl c9
      exact j_21  (by omega)
    · have f6 : p1.toInt < v_count.toInt := i_nle (a := v_count.toInt) (b := p1.toInt) rfl rfl c9
      refine ⟨i_in (by omega) (by omega), ?_⟩
      intro x17 ex17
      have f7 : p1.toInt + 1 ≤ x17.toInt ∧ x17.toInt ≤ 256 := by have h9 := rp_get (P := (fun k v => k < v ∧ v ≤ 256)) (a := p1.toInt) b0 ex17 rfl (by omega) (by omega) (by omega); omega
      exact j_25 x17 (by omega)
set_option maxHeartbeats 4000000 in
theorem ok_X10_isEndless {p1 : Int32} {v_count : Int32} {v_sort : Nat → Int32} {v_high : Nat → Int32} {Q : Int32 → Prop} (a0 : 0 ≤ v_count.toInt) (a1 : v_count.toInt ≤ 256) (hq : ∀ (r : Int32), 0 ≤ r.toInt → r.toInt ≤ 1 → Q r) : w_X10_isEndless p1 v_count v_sort v_high Q := by
  have q_t : (bz true).toInt = 1 := rfl
  have q_f : (bz false).toInt = 0 := rfl
  have q_0 : (0 : Int32).toInt = 0 := rfl
  have q_1 : (1 : Int32).toInt = 1 := rfl
  unfold w_X10_isEndless
  refine ok_X10_sortOf (by omega) (by omega) (fun r2 f1 => ?_)
  have j_24 : ∀ (s0_24 : Int32), ((s0_24.toInt = 1 ∧ r2.toInt = 7) ∨ (s0_24.toInt = 0)) → w_X10_isEndless_24 Q s0_24 := by
    intro s0_24 f2
    unfold w_X10_isEndless_24
    refine ⟨i_01 (by omega) (by omega), ?_⟩
    exact hq s0_24 (by omega) (by omega)
  have j_23 : w_X10_isEndless_23 Q := by
    unfold w_X10_isEndless_23
    exact j_24 0 (by omega)
  refine ⟨fun c7 => ?_, fun c7 => ?_⟩
  · have f3 : r2.toInt ≠ 7 := i_ne (a := r2.toInt) (b := 7) rfl rfl c7
    exact j_23  
  · have f4 : r2.toInt = 7 := i_eq (a := r2.toInt) (b := 7) rfl rfl c7
    refine ok_X10_highOf (by omega) (by omega) (fun r12 f5 => ?_)
    refine ⟨fun c16 => ?_, fun c16 => ?_⟩
    · have f6 : r12.toInt ≠ (-1) := i_ne (a := r12.toInt) (b := (-1)) rfl rfl c16
      exact j_23  
    · have f7 : r12.toInt = (-1) := i_eq (a := r12.toInt) (b := (-1)) rfl rfl c16
      exact j_24 1 (by omega)
set_option maxHeartbeats 4000000 in
theorem ok_X10_isWithinCase {p1 : Int32} {v_count : Int32} {v_withinCase : Nat → Bool} {Q : Int32 → Prop} (a0 : 0 ≤ v_count.toInt) (a1 : v_count.toInt ≤ 256) (hq : ∀ (r : Int32), ((r.toInt = 1 ∧ 0 ≤ p1.toInt ∧ p1.toInt + 1 ≤ v_count.toInt) ∨ (r.toInt = 0)) → Q r) : w_X10_isWithinCase p1 v_count v_withinCase Q := by
  have q_t : (bz true).toInt = 1 := rfl
  have q_f : (bz false).toInt = 0 := rfl
  have q_0 : (0 : Int32).toInt = 0 := rfl
  have q_1 : (1 : Int32).toInt = 1 := rfl
  unfold w_X10_isWithinCase
  have j_26 : ∀ (s0_26 : Int32), ((s0_26.toInt = 1 ∧ 0 ≤ p1.toInt ∧ p1.toInt + 1 ≤ v_count.toInt) ∨ (s0_26.toInt = 0)) → w_X10_isWithinCase_26 Q s0_26 := by
    intro s0_26 f1
    unfold w_X10_isWithinCase_26
    refine ⟨i_01 (by omega) (by omega), ?_⟩
    exact hq s0_26 (by omega)
  have j_25 : ((p1.toInt + 1 ≤ 0) ∨ (0 ≤ p1.toInt ∧ v_count.toInt ≤ p1.toInt) ∨ (0 ≤ p1.toInt ∧ p1.toInt + 1 ≤ v_count.toInt)) → w_X10_isWithinCase_25 Q := by
    intro f2
    unfold w_X10_isWithinCase_25
    exact j_26 0 (by omega)
  refine ⟨fun c1 => ?_, fun c1 => ?_⟩
  · have f3 : p1.toInt < 0 := i_lt (a := p1.toInt) (b := 0) rfl rfl c1
    exact j_25  (by omega)
  · have f4 : 0 ≤ p1.toInt := i_nlt (a := p1.toInt) (b := 0) rfl rfl c1
    refine ⟨fun c9 => ?_, fun c9 => ?_⟩
    · have f5 : v_count.toInt ≤ p1.toInt := i_le (a := v_count.toInt) (b := p1.toInt) rfl rfl c9
      exact j_25  (by omega)
    · have f6 : p1.toInt < v_count.toInt := i_nle (a := v_count.toInt) (b := p1.toInt) rfl rfl c9
      refine ⟨i_in (by omega) (by omega), ?_⟩
      intro x17 ex17
      have f7 : (0 ≤ x17.toInt ∧ x17.toInt ≤ 1) := i_bz ex17
      refine ⟨fun c18 => ?_, fun c18 => ?_⟩
      · have f8 : x17.toInt = 0 := i_eq (a := x17.toInt) (b := 0) rfl rfl c18
        exact j_25  (by omega)
      · have f9 : x17.toInt ≠ 0 := i_ne (a := x17.toInt) (b := 0) rfl rfl c18
        exact j_26 1 (by omega)
set_option maxHeartbeats 4000000 in
theorem ok_X10_isMarked {p1 : Int32} {v_count : Int32} {v_marked : Nat → Bool} {Q : Int32 → Prop} (a0 : 0 ≤ v_count.toInt) (a1 : v_count.toInt ≤ 256) (hq : ∀ (r : Int32), ((r.toInt = 1 ∧ 0 ≤ p1.toInt ∧ p1.toInt + 1 ≤ v_count.toInt) ∨ (r.toInt = 0)) → Q r) : w_X10_isMarked p1 v_count v_marked Q := by
  have q_t : (bz true).toInt = 1 := rfl
  have q_f : (bz false).toInt = 0 := rfl
  have q_0 : (0 : Int32).toInt = 0 := rfl
  have q_1 : (1 : Int32).toInt = 1 := rfl
  unfold w_X10_isMarked
  have j_26 : ∀ (s0_26 : Int32), ((s0_26.toInt = 1 ∧ 0 ≤ p1.toInt ∧ p1.toInt + 1 ≤ v_count.toInt) ∨ (s0_26.toInt = 0)) → w_X10_isMarked_26 Q s0_26 := by
    intro s0_26 f1
    unfold w_X10_isMarked_26
    refine ⟨i_01 (by omega) (by omega), ?_⟩
    exact hq s0_26 (by omega)
  have j_25 : ((p1.toInt + 1 ≤ 0) ∨ (0 ≤ p1.toInt ∧ v_count.toInt ≤ p1.toInt) ∨ (0 ≤ p1.toInt ∧ p1.toInt + 1 ≤ v_count.toInt)) → w_X10_isMarked_25 Q := by
    intro f2
    unfold w_X10_isMarked_25
    exact j_26 0 (by omega)
  refine ⟨fun c1 => ?_, fun c1 => ?_⟩
  · have f3 : p1.toInt < 0 := i_lt (a := p1.toInt) (b := 0) rfl rfl c1
    exact j_25  (by omega)
  · have f4 : 0 ≤ p1.toInt := i_nlt (a := p1.toInt) (b := 0) rfl rfl c1
    refine ⟨fun c9 => ?_, fun c9 => ?_⟩
    · have f5 : v_count.toInt ≤ p1.toInt := i_le (a := v_count.toInt) (b := p1.toInt) rfl rfl c9
      exact j_25  (by omega)
    · have f6 : p1.toInt < v_count.toInt := i_nle (a := v_count.toInt) (b := p1.toInt) rfl rfl c9
      refine ⟨i_in (by omega) (by omega), ?_⟩
      intro x17 ex17
      have f7 : (0 ≤ x17.toInt ∧ x17.toInt ≤ 1) := i_bz ex17
      refine ⟨fun c18 => ?_, fun c18 => ?_⟩
      · have f8 : x17.toInt = 0 := i_eq (a := x17.toInt) (b := 0) rfl rfl c18
        exact j_25  (by omega)
      · have f9 : x17.toInt ≠ 0 := i_ne (a := x17.toInt) (b := 0) rfl rfl c18
        exact j_26 1 (by omega)
set_option maxHeartbeats 4000000 in
theorem ok_X10_partBegin {p1 : Int32} {p2 : Int32} {v_count : Int32} {v_ranges : Int32} {v_low : Nat → Int32} {v_rangeBegin : Nat → Int32} {Q : Int32 → Prop} (a0 : 0 ≤ v_count.toInt) (a1 : v_count.toInt ≤ 256) (a2 : 0 ≤ v_ranges.toInt) (a3 : v_ranges.toInt ≤ 512) (hq : ∀ (r : Int32), Q r) : w_X10_partBegin p1 p2 v_count v_ranges v_low v_rangeBegin Q := by
  have q_t : (bz true).toInt = 1 := rfl
  have q_f : (bz false).toInt = 0 := rfl
  have q_0 : (0 : Int32).toInt = 0 := rfl
  unfold w_X10_partBegin
  refine ok_X10_lowOf (by omega) (by omega) (fun r2 f1 => ?_)
  intro x6 ex6
  have j_30 : ∀ (s0_30 : Int32), w_X10_partBegin_30 Q s0_30 := by
    intro s0_30
    unfold w_X10_partBegin_30
    exact hq s0_30 
  have j_29 : w_X10_partBegin_29 Q := by
    unfold w_X10_partBegin_29
    exact j_30 0 
  refine ⟨fun c9 => ?_, fun c9 => ?_⟩
  · have f2 : x6.toInt < 0 := i_lt (a := x6.toInt) (b := 0) rfl rfl c9
    exact j_29  
  · have f3 : 0 ≤ x6.toInt := i_nlt (a := x6.toInt) (b := 0) rfl rfl c9
    refine ⟨fun c17 => ?_, fun c17 => ?_⟩
    · have f4 : v_ranges.toInt ≤ x6.toInt := i_le (a := v_ranges.toInt) (b := x6.toInt) rfl rfl c17
      exact j_29  
    · have f5 : x6.toInt < v_ranges.toInt := i_nle (a := v_ranges.toInt) (b := x6.toInt) rfl rfl c17
      refine ⟨i_in (by omega) (by omega), ?_⟩
      intro x25 ex25
      exact j_30 x25 
set_option maxHeartbeats 4000000 in
theorem ok_X10_partEnd {p1 : Int32} {p2 : Int32} {v_count : Int32} {v_ranges : Int32} {v_low : Nat → Int32} {v_rangeEnd : Nat → Int32} {Q : Int32 → Prop} (a0 : 0 ≤ v_count.toInt) (a1 : v_count.toInt ≤ 256) (a2 : 0 ≤ v_ranges.toInt) (a3 : v_ranges.toInt ≤ 512) (hq : ∀ (r : Int32), Q r) : w_X10_partEnd p1 p2 v_count v_ranges v_low v_rangeEnd Q := by
  have q_t : (bz true).toInt = 1 := rfl
  have q_f : (bz false).toInt = 0 := rfl
  have q_0 : (0 : Int32).toInt = 0 := rfl
  unfold w_X10_partEnd
  refine ok_X10_lowOf (by omega) (by omega) (fun r2 f1 => ?_)
  intro x6 ex6
  have j_30 : ∀ (s0_30 : Int32), w_X10_partEnd_30 Q s0_30 := by
    intro s0_30
    unfold w_X10_partEnd_30
    exact hq s0_30 
  have j_29 : w_X10_partEnd_29 Q := by
    unfold w_X10_partEnd_29
    exact j_30 0 
  refine ⟨fun c9 => ?_, fun c9 => ?_⟩
  · have f2 : x6.toInt < 0 := i_lt (a := x6.toInt) (b := 0) rfl rfl c9
    exact j_29  
  · have f3 : 0 ≤ x6.toInt := i_nlt (a := x6.toInt) (b := 0) rfl rfl c9
    refine ⟨fun c17 => ?_, fun c17 => ?_⟩
    · have f4 : v_ranges.toInt ≤ x6.toInt := i_le (a := v_ranges.toInt) (b := x6.toInt) rfl rfl c17
      exact j_29  
    · have f5 : x6.toInt < v_ranges.toInt := i_nle (a := v_ranges.toInt) (b := x6.toInt) rfl rfl c17
      refine ⟨i_in (by omega) (by omega), ?_⟩
      intro x25 ex25
      exact j_30 x25 
set_option maxHeartbeats 4000000 in
theorem ok_X10_firstOf {p1 : Int32} {v_count : Int32} {v_end : Nat → Int32} {Q : Int32 → Prop} (a0 : 0 ≤ v_count.toInt) (a1 : v_count.toInt ≤ 256) (b0 : rp (fun k v => k < v ∧ v ≤ 256) v_end 0 v_count.toInt) (hq : ∀ (r : Int32), ((0 ≤ p1.toInt ∧ p1.toInt + 1 ≤ v_count.toInt ∧ r.toInt = p1.toInt + 1) ∨ (r.toInt + 1 = 0)) → r.toInt ≤ 255 → Q r) : w_X10_firstOf p1 v_count v_end Q := by
  have q_t : (bz true).toInt = 1 := rfl
  have q_f : (bz false).toInt = 0 := rfl
  have q_m1 : ((-1) : Int32).toInt = (-1) := rfl
  unfold w_X10_firstOf
  have j_31 : ∀ (s0_31 : Int32), ((0 ≤ p1.toInt ∧ p1.toInt + 1 ≤ v_count.toInt ∧ s0_31.toInt = p1.toInt + 1) ∨ (s0_31.toInt + 1 = 0)) → s0_31.toInt ≤ 255 → w_X10_firstOf_31 Q s0_31 := by
    intro s0_31 f1 f2
    unfold w_X10_firstOf_31
    exact hq s0_31 (by omega) (by omega)
  have j_30 : ((p1.toInt + 1 ≤ 0) ∨ (0 ≤ p1.toInt ∧ v_count.toInt ≤ p1.toInt) ∨ (0 ≤ p1.toInt ∧ p1.toInt + 1 ≤ v_count.toInt)) → w_X10_firstOf_30 Q := by
    intro f3
    unfold w_X10_firstOf_30
    exact j_31 (-1) (by omega) (by omega)
  refine ⟨fun c1 => ?_, fun c1 => ?_⟩
  · have f4 : p1.toInt < 0 := i_lt (a := p1.toInt) (b := 0) rfl rfl c1
    exact j_30  (by omega)
  · have f5 : 0 ≤ p1.toInt := i_nlt (a := p1.toInt) (b := 0) rfl rfl c1
    refine ⟨fun c9 => ?_, fun c9 => ?_⟩
    · have f6 : v_count.toInt ≤ p1.toInt := i_le (a := v_count.toInt) (b := p1.toInt) rfl rfl c9
      exact j_30  (by omega)
    · have f7 : p1.toInt < v_count.toInt := i_nle (a := v_count.toInt) (b := p1.toInt) rfl rfl c9
      refine ⟨i_in (by omega) (by omega), ?_⟩
      intro x17 ex17
      have f8 : p1.toInt + 1 ≤ x17.toInt ∧ x17.toInt ≤ 256 := by have h9 := rp_get (P := (fun k v => k < v ∧ v ≤ 256)) (a := p1.toInt) b0 ex17 rfl (by omega) (by omega) (by omega); omega
      intro x20 ex20
      have f9 : x20.toInt = p1.toInt + 1 := i_add (a := p1.toInt) (b := 1) ex20 rfl rfl (by omega) (by omega)
      refine ⟨fun c21 => ?_, fun c21 => ?_⟩
      · have f10 : x17.toInt ≤ x20.toInt := i_le (a := x17.toInt) (b := x20.toInt) rfl rfl c21
        exact j_30  (by omega)
      · have f11 : x20.toInt < x17.toInt := i_nle (a := x17.toInt) (b := x20.toInt) rfl rfl c21
        intro x26 ex26
        have f12 : x26.toInt = p1.toInt + 1 := i_add (a := p1.toInt) (b := 1) ex26 rfl rfl (by omega) (by omega)
        exact j_31 x26 (by omega) (by omega)
set_option maxHeartbeats 4000000 in
theorem ok_X10_nextOf {p1 : Int32} {v_count : Int32} {v_holder : Nat → Int32} {v_end : Nat → Int32} {Q : Int32 → Prop} (a0 : 0 ≤ v_count.toInt) (a1 : v_count.toInt ≤ 256) (b0 : rp (fun k v => k < v ∧ v ≤ 256) v_end 0 v_count.toInt) (b1 : rp (fun k v => v < k ∧ -1 ≤ v) v_holder 0 v_count.toInt) (hq : ∀ (r : Int32), r.toInt ≤ 255 → ((r.toInt + 1 = 0) ∨ (p1.toInt + 1 ≤ r.toInt)) → 0 ≤ r.toInt + 1 → Q r) : w_X10_nextOf p1 v_count v_holder v_end Q := by
  have q_t : (bz true).toInt = 1 := rfl
  have q_f : (bz false).toInt = 0 := rfl
  have q_m1 : ((-1) : Int32).toInt = (-1) := rfl
  unfold w_X10_nextOf
  have j_22 : ∀ (s0_22 : Int32), ((0 ≤ p1.toInt ∧ p1.toInt + 1 ≤ v_count.toInt ∧ s0_22.toInt + 1 ≤ p1.toInt ∧ 0 ≤ s0_22.toInt + 1) ∨ (s0_22.toInt + 1 = 0)) → w_X10_nextOf_22 p1 v_count v_end Q s0_22 := by
    intro s0_22 f1
    unfold w_X10_nextOf_22
    have j_60 : ∀ (s0_60 : Int32), ((0 ≤ s0_22.toInt ∧ s0_22.toInt + 1 ≤ v_count.toInt ∧ p1.toInt + 1 ≤ s0_60.toInt ∧ s0_60.toInt ≤ 256) ∨ (s0_60.toInt + 1 = 0)) → s0_60.toInt ≤ 255 → w_X10_nextOf_60 Q s0_60 := by
      intro s0_60 f2 f3
      unfold w_X10_nextOf_60
      exact hq s0_60 (by omega) (by omega) (by omega)
    have j_59 : ((s0_22.toInt + 1 ≤ 0) ∨ (0 ≤ s0_22.toInt ∧ s0_22.toInt + 1 ≤ v_count.toInt)) → w_X10_nextOf_59 Q := by
      intro f4
      unfold w_X10_nextOf_59
      exact j_60 (-1) (by omega) (by omega)
    refine ⟨fun c24 => ?_, fun c24 => ?_⟩
    · have f5 : s0_22.toInt < 0 := i_lt (a := s0_22.toInt) (b := 0) rfl rfl c24
      exact j_59  (by omega)
    · have f6 : 0 ≤ s0_22.toInt := i_nlt (a := s0_22.toInt) (b := 0) rfl rfl c24
      refine ⟨fun c32 => ?_, fun c32 => ?_⟩
      · have f7 : v_count.toInt ≤ s0_22.toInt := i_le (a := v_count.toInt) (b := s0_22.toInt) rfl rfl c32
        exfalso; omega
      · have f8 : s0_22.toInt < v_count.toInt := i_nle (a := v_count.toInt) (b := s0_22.toInt) rfl rfl c32
        refine ⟨i_in (by omega) (by omega), ?_⟩
        intro x40 ex40
        have f9 : p1.toInt + 1 ≤ x40.toInt ∧ x40.toInt ≤ 256 := by have h9 := rp_get (P := (fun k v => k < v ∧ v ≤ 256)) (a := p1.toInt) b0 ex40 rfl (by omega) (by omega) (by omega); omega
        refine ⟨i_in (by omega) (by omega), ?_⟩
        intro x46 ex46
        have f10 : s0_22.toInt + 1 ≤ x46.toInt ∧ x46.toInt ≤ 256 := by have h9 := rp_get (P := (fun k v => k < v ∧ v ≤ 256)) (a := s0_22.toInt) b0 ex46 rfl (by omega) (by omega) (by omega); omega
        refine ⟨fun c47 => ?_, fun c47 => ?_⟩
        · have f11 : x46.toInt ≤ x40.toInt := i_le (a := x46.toInt) (b := x40.toInt) rfl rfl c47
          exact j_59  (by omega)
        · have f12 : x40.toInt < x46.toInt := i_nle (a := x46.toInt) (b := x40.toInt) rfl rfl c47
          refine ⟨i_in (by omega) (by omega), ?_⟩
          intro x55 ex55
          have f13 : x55.toInt = x40.toInt := congrArg Int32.toInt (ex55.trans ex40.symm)
          have f14 : p1.toInt + 1 ≤ x55.toInt ∧ x55.toInt ≤ 256 := by have h9 := rp_get (P := (fun k v => k < v ∧ v ≤ 256)) (a := p1.toInt) b0 ex55 rfl (by omega) (by omega) (by omega); omega
          exact j_60 x55 (by omega) (by omega)
  have j_21 : ((p1.toInt + 1 ≤ 0) ∨ (0 ≤ p1.toInt ∧ v_count.toInt ≤ p1.toInt)) → w_X10_nextOf_21 p1 v_count v_end Q := by
    intro f15
    unfold w_X10_nextOf_21
    exact j_22 (-1) (by omega)
  refine ⟨fun c1 => ?_, fun c1 => ?_⟩
  · have f16 : p1.toInt < 0 := i_lt (a := p1.toInt) (b := 0) rfl rfl c1
    exact j_21  (by omega)
  · have f17 : 0 ≤ p1.toInt := i_nlt (a := p1.toInt) (b := 0) rfl rfl c1
    refine ⟨fun c9 => ?_, fun c9 => ?_⟩
    · have f18 : v_count.toInt ≤ p1.toInt := i_le (a := v_count.toInt) (b := p1.toInt) rfl rfl c9
      exact j_21  (by omega)
    · have f19 : p1.toInt < v_count.toInt := i_nle (a := v_count.toInt) (b := p1.toInt) rfl rfl c9
      refine ⟨i_in (by omega) (by omega), ?_⟩
      intro x17 ex17
      have f20 : x17.toInt + 1 ≤ p1.toInt ∧ 0 ≤ x17.toInt + 1 := by have h9 := rp_get (P := (fun k v => v < k ∧ -1 ≤ v)) (a := p1.toInt) b1 ex17 rfl (by omega) (by omega) (by omega); omega
      exact j_22 x17 (by omega)
set_option maxHeartbeats 4000000 in
theorem ok_X10_somePartIsMarked {p1 : Int32} {v_count : Int32} {v_holder : Nat → Int32} {v_end : Nat → Int32} {v_marked : Nat → Bool} {Q : Int32 → Prop} (a0 : 0 ≤ v_count.toInt) (a1 : v_count.toInt ≤ 256) (b0 : rp (fun k v => k < v ∧ v ≤ 256) v_end 0 v_count.toInt) (b1 : rp (fun k v => v < k ∧ -1 ≤ v) v_holder 0 v_count.toInt) (hq : ∀ (r : Int32), ((r.toInt = 0) ∨ (r.toInt = 1)) → Q r) : w_X10_somePartIsMarked p1 v_count v_holder v_end v_marked Q := by
  have q_t : (bz true).toInt = 1 := rfl
  have q_f : (bz false).toInt = 0 := rfl
  have q_0 : (0 : Int32).toInt = 0 := rfl
  have q_1 : (1 : Int32).toInt = 1 := rfl
  unfold w_X10_somePartIsMarked
  refine ok_X10_firstOf (by omega) (by omega) (rp_mono b0 (by omega) (by omega)) (fun r2 f1 f2 => ?_)
  have j_6 : ∀ n_6 : Nat, ∀ (l2_6 : Int32), 0 ≤ l2_6.toInt + 1 → l2_6.toInt ≤ 255 → (1 ≤ n_6 ∧ (l2_6.toInt + 1 ≤ 0 ∨ (-1) * l2_6.toInt + 2147483648 ≤ (n_6 : Int))) → w_X10_somePartIsMarked_6 v_count v_holder v_end v_marked Q n_6 l2_6 := by
    intro n_6
    induction n_6 with
    | zero =>
      intro l2_6 f3 f4 hm_6
      exfalso; omega
    | succ n_6 ih_6 =>
      intro l2_6 f3 f4 hm_6
      unfold w_X10_somePartIsMarked_6
      unfold w_X10_somePartIsMarked_6B
      refine ok_X10_has (by omega) (by omega) (fun r8 f5 => ?_)
      refine ⟨fun c11 => ?_, fun c11 => ?_⟩
      · have f6 : r8.toInt = 0 := i_eq (a := r8.toInt) (b := 0) rfl rfl c11
        exact hq 0 (by omega)
      · have f7 : r8.toInt ≠ 0 := i_ne (a := r8.toInt) (b := 0) rfl rfl c11
        refine ⟨i_in (by omega) (by omega), ?_⟩
        intro x19 ex19
        have f8 : (0 ≤ x19.toInt ∧ x19.toInt ≤ 1) := i_bz ex19
        refine ⟨fun c20 => ?_, fun c20 => ?_⟩
        · have f9 : x19.toInt = 0 := i_eq (a := x19.toInt) (b := 0) rfl rfl c20
          refine ok_X10_nextOf (by omega) (by omega) (rp_mono b0 (by omega) (by omega)) (rp_mono b1 (by omega) (by omega)) (fun r27 f10 f11 f12 => ?_)
          exact ih_6 r27 (by omega) (by omega) (by have h8_0 := i_rng l2_6; have h8_1 := i_rng r27; omega)
        · have f13 : x19.toInt ≠ 0 := i_ne (a := x19.toInt) (b := 0) rfl rfl c20
          exact hq 1 (by omega)
  exact ⟨((-1) * r2.toInt + 2147483648).toNat + 1, j_6   (((-1) * r2.toInt + 2147483648).toNat + 1) r2 (by omega) (by omega) (by omega)⟩
set_option maxHeartbeats 4000000 in
theorem ok_X10_rowBegins {p1 : Int32} {v_count : Int32} {v_holder : Nat → Int32} {v_end : Nat → Int32} {v_mayBeEmpty : Nat → Bool} {v_marked : Nat → Bool} {Q : Int32 → Prop} (a0 : 0 ≤ v_count.toInt) (a1 : v_count.toInt ≤ 256) (b0 : rp (fun k v => k < v ∧ v ≤ 256) v_end 0 v_count.toInt) (b1 : rp (fun k v => v < k ∧ -1 ≤ v) v_holder 0 v_count.toInt) (hq : ∀ (r : Int32), ((r.toInt = 0) ∨ (0 ≤ r.toInt ∧ r.toInt ≤ 1)) → Q r) : w_X10_rowBegins p1 v_count v_holder v_end v_mayBeEmpty v_marked Q := by
  have q_t : (bz true).toInt = 1 := rfl
  have q_f : (bz false).toInt = 0 := rfl
  have q_0 : (0 : Int32).toInt = 0 := rfl
  unfold w_X10_rowBegins
  refine ok_X10_firstOf (by omega) (by omega) (rp_mono b0 (by omega) (by omega)) (fun r2 f1 f2 => ?_)
  have j_6 : ∀ n_6 : Nat, ∀ (l2_6 : Int32), 0 ≤ l2_6.toInt + 1 → l2_6.toInt ≤ 255 → (1 ≤ n_6 ∧ (l2_6.toInt + 1 ≤ 0 ∨ (-1) * l2_6.toInt + 2147483648 ≤ (n_6 : Int))) → w_X10_rowBegins_6 v_count v_holder v_end v_mayBeEmpty v_marked Q n_6 l2_6 := by
    intro n_6
    induction n_6 with
    | zero =>
      intro l2_6 f3 f4 hm_6
      exfalso; omega
    | succ n_6 ih_6 =>
      intro l2_6 f3 f4 hm_6
      unfold w_X10_rowBegins_6
      unfold w_X10_rowBegins_6B
      refine ok_X10_has (by omega) (by omega) (fun r8 f5 => ?_)
      refine ⟨fun c11 => ?_, fun c11 => ?_⟩
      · have f6 : r8.toInt = 0 := i_eq (a := r8.toInt) (b := 0) rfl rfl c11
        exact hq 0 (by omega)
      · have f7 : r8.toInt ≠ 0 := i_ne (a := r8.toInt) (b := 0) rfl rfl c11
        refine ⟨i_in (by omega) (by omega), ?_⟩
        intro x19 ex19
        have f8 : (0 ≤ x19.toInt ∧ x19.toInt ≤ 1) := i_bz ex19
        have j_32 : w_X10_rowBegins_32 v_marked Q l2_6 := by
          unfold w_X10_rowBegins_32
          refine ⟨i_in (by omega) (by omega), ?_⟩
          intro x37 ex37
          have f9 : (0 ≤ x37.toInt ∧ x37.toInt ≤ 1) := i_bz ex37
          refine ⟨i_01 (by omega) (by omega), ?_⟩
          exact hq x37 (by omega)
        refine ⟨fun c20 => ?_, fun c20 => ?_⟩
        · have f10 : x19.toInt ≠ 0 := i_ne (a := x19.toInt) (b := 0) rfl rfl c20
          exact j_32  
        · have f11 : x19.toInt = 0 := i_eq (a := x19.toInt) (b := 0) rfl rfl c20
          refine ⟨i_in (by omega) (by omega), ?_⟩
          intro x28 ex28
          have f12 : (0 ≤ x28.toInt ∧ x28.toInt ≤ 1) := i_bz ex28
          refine ⟨fun c29 => ?_, fun c29 => ?_⟩
          · have f13 : x28.toInt ≠ 0 := i_ne (a := x28.toInt) (b := 0) rfl rfl c29
            refine ok_X10_nextOf (by omega) (by omega) (rp_mono b0 (by omega) (by omega)) (rp_mono b1 (by omega) (by omega)) (fun r41 f14 f15 f16 => ?_)
            exact ih_6 r41 (by omega) (by omega) (by have h8_0 := i_rng l2_6; have h8_1 := i_rng r41; omega)
          · have f17 : x28.toInt = 0 := i_eq (a := x28.toInt) (b := 0) rfl rfl c29
            exact j_32  
  exact ⟨((-1) * r2.toInt + 2147483648).toNat + 1, j_6   (((-1) * r2.toInt + 2147483648).toNat + 1) r2 (by omega) (by omega) (by omega)⟩
set_option maxHeartbeats 4000000 in
theorem ok_X10_hasInParts {p1 : Int32} {p2 : Int32} {v_count : Int32} {v_ranges : Int32} {v_low : Nat → Int32} {v_high : Nat → Int32} {v_rangeBegin : Nat → Int32} {v_rangeEnd : Nat → Int32} {Q : Int32 → Prop} (a0 : 0 ≤ v_count.toInt) (a1 : v_count.toInt ≤ 256) (a2 : 0 ≤ v_ranges.toInt) (a3 : v_ranges.toInt ≤ 512) (hq : ∀ (r : Int32), ((r.toInt = 1 ∧ 0 ≤ p1.toInt ∧ p1.toInt + 1 ≤ v_count.toInt) ∨ (r.toInt = 0 ∧ 0 ≤ p1.toInt ∧ p1.toInt + 1 ≤ v_count.toInt) ∨ (r.toInt = 0)) → Q r) : w_X10_hasInParts p1 p2 v_count v_ranges v_low v_high v_rangeBegin v_rangeEnd Q := by
  have q_t : (bz true).toInt = 1 := rfl
  have q_f : (bz false).toInt = 0 := rfl
  have q_0 : (0 : Int32).toInt = 0 := rfl
  have q_1 : (1 : Int32).toInt = 1 := rfl
  unfold w_X10_hasInParts
  have j_12 : ((p1.toInt + 1 ≤ 0) ∨ (0 ≤ p1.toInt ∧ v_count.toInt ≤ p1.toInt)) → w_X10_hasInParts_12 Q := by
    intro f1
    unfold w_X10_hasInParts_12
    exact hq 0 (by omega)
  refine ⟨fun c1 => ?_, fun c1 => ?_⟩
  · have f2 : p1.toInt < 0 := i_lt (a := p1.toInt) (b := 0) rfl rfl c1
    exact j_12  (by omega)
  · have f3 : 0 ≤ p1.toInt := i_nlt (a := p1.toInt) (b := 0) rfl rfl c1
    refine ⟨fun c9 => ?_, fun c9 => ?_⟩
    · have f4 : p1.toInt < v_count.toInt := i_lt (a := p1.toInt) (b := v_count.toInt) rfl rfl c9
      refine ⟨i_in (by omega) (by omega), ?_⟩
      intro x19 ex19
      have j_21 : ∀ n_21 : Nat, ∀ (l3_21 : Int32), x19.toInt ≤ l3_21.toInt → ((-1) * l3_21.toInt + 2147483648).toNat < n_21 → w_X10_hasInParts_21 p1 p2 v_ranges v_low v_high v_rangeBegin v_rangeEnd Q n_21 l3_21 := by
        intro n_21
        induction n_21 with
        | zero =>
          intro l3_21 f5 hm_21
          exfalso; omega
        | succ n_21 ih_21 =>
          intro l3_21 f5 hm_21
          unfold w_X10_hasInParts_21
          unfold w_X10_hasInParts_21B
          have j_78 : ((l3_21.toInt + 1 ≤ 0) ∨ (0 ≤ l3_21.toInt) ∨ (0 ≤ l3_21.toInt ∧ v_ranges.toInt ≤ l3_21.toInt)) → w_X10_hasInParts_78 Q := by
            intro f6
            unfold w_X10_hasInParts_78
            exact hq 0 (by omega)
          refine ⟨fun c22 => ?_, fun c22 => ?_⟩
          · have f7 : l3_21.toInt < 0 := i_lt (a := l3_21.toInt) (b := 0) rfl rfl c22
            exact j_78  (by omega)
          · have f8 : 0 ≤ l3_21.toInt := i_nlt (a := l3_21.toInt) (b := 0) rfl rfl c22
            refine ⟨i_in (by omega) (by omega), ?_⟩
            intro x31 ex31
            have f9 : x31.toInt = x19.toInt := congrArg Int32.toInt (ex31.trans ex19.symm)
            refine ⟨i_in (by omega) (by omega), ?_⟩
            intro x37 ex37
            intro x38 ex38
            refine ⟨fun c39 => ?_, fun c39 => ?_⟩
            · have f10 : x38.toInt ≤ l3_21.toInt := i_le (a := x38.toInt) (b := l3_21.toInt) rfl rfl c39
              exact j_78  (by omega)
            · have f11 : l3_21.toInt < x38.toInt := i_nle (a := x38.toInt) (b := l3_21.toInt) rfl rfl c39
              refine ⟨fun c47 => ?_, fun c47 => ?_⟩
              · have f12 : v_ranges.toInt ≤ l3_21.toInt := i_le (a := v_ranges.toInt) (b := l3_21.toInt) rfl rfl c47
                exact j_78  (by omega)
              · have f13 : l3_21.toInt < v_ranges.toInt := i_nle (a := v_ranges.toInt) (b := l3_21.toInt) rfl rfl c47
                refine ⟨i_in (by omega) (by omega), ?_⟩
                intro x55 ex55
                have j_72 : w_X10_hasInParts_72 Q (w_X10_hasInParts_21 p1 p2 v_ranges v_low v_high v_rangeBegin v_rangeEnd Q n_21) l3_21 := by
                  unfold w_X10_hasInParts_72
                  intro x72 ex72
                  have f14 : x72.toInt = l3_21.toInt + 1 := i_add (a := l3_21.toInt) (b := 1) ex72 rfl rfl (by omega) (by omega)
                  exact ih_21 x72 (by omega) (by have h8_0 := i_rng l3_21; have h8_1 := i_rng x72; omega)
                refine ⟨fun c57 => ?_, fun c57 => ?_⟩
                · have f15 : p2.toInt < x55.toInt := i_lt (a := p2.toInt) (b := x55.toInt) rfl rfl c57
                  exact j_72  
                · have f16 : x55.toInt ≤ p2.toInt := i_nlt (a := p2.toInt) (b := x55.toInt) rfl rfl c57
                  refine ⟨i_in (by omega) (by omega), ?_⟩
                  intro x66 ex66
                  refine ⟨fun c67 => ?_, fun c67 => ?_⟩
                  · have f17 : x66.toInt < p2.toInt := i_lt (a := x66.toInt) (b := p2.toInt) rfl rfl c67
                    exact j_72  
                  · have f18 : p2.toInt ≤ x66.toInt := i_nlt (a := x66.toInt) (b := p2.toInt) rfl rfl c67
                    exact hq 1 (by omega)
      exact ⟨((-1) * x19.toInt + 2147483648).toNat + 1, j_21   (((-1) * x19.toInt + 2147483648).toNat + 1) x19 (by omega) (by omega)⟩
    · have f19 : v_count.toInt ≤ p1.toInt := i_nlt (a := p1.toInt) (b := v_count.toInt) rfl rfl c9
      exact j_12  (by omega)
set_option maxHeartbeats 4000000 in
theorem ok_X11_otherCase {p0 : Int32} {Q : Int32 → Prop} (hq : ∀ (r : Int32), Q r) : w_X11_otherCase p0 Q := by
  have q_t : (bz true).toInt = 1 := rfl
  have q_f : (bz false).toInt = 0 := rfl
  unfold w_X11_otherCase
  intro x3 ex3
  have j_25 : ∀ (s0_25 : Int32), w_X11_otherCase_25 Q s0_25 := by
    intro s0_25
    unfold w_X11_otherCase_25
    exact hq s0_25 
  have j_24 : w_X11_otherCase_24 p0 Q := by
    unfold w_X11_otherCase_24
    exact j_25 p0 
  refine ⟨fun c8 => ?_, fun c8 => ?_⟩
  · have f1 : x3.toInt < 97 := i_lt (a := x3.toInt) (b := 97) rfl rfl c8
    exact j_24  
  · have f2 : 97 ≤ x3.toInt := i_nlt (a := x3.toInt) (b := 97) rfl rfl c8
    refine ⟨fun c14 => ?_, fun c14 => ?_⟩
    · have f3 : 122 < x3.toInt := i_lt (a := 122) (b := x3.toInt) rfl rfl c14
      exact j_24  
    · have f4 : x3.toInt ≤ 122 := i_nlt (a := 122) (b := x3.toInt) rfl rfl c14
      intro x20 ex20
      exact j_25 x20 
set_option maxHeartbeats 4000000 in
theorem ok_X10_takes {p1 : Int32} {p2 : Int32} {v_count : Int32} {v_ranges : Int32} {v_sort : Nat → Int32} {v_value : Nat → Int32} {v_low : Nat → Int32} {v_high : Nat → Int32} {v_withinCase : Nat → Bool} {v_rangeBegin : Nat → Int32} {v_rangeEnd : Nat → Int32} {Q : Int32 → Prop} (a0 : 0 ≤ v_count.toInt) (a1 : v_count.toInt ≤ 256) (a2 : 0 ≤ v_ranges.toInt) (a3 : v_ranges.toInt ≤ 512) (hq : ∀ (r : Int32), 0 ≤ r.toInt → r.toInt ≤ 1 → Q r) : w_X10_takes p1 p2 v_count v_ranges v_sort v_value v_low v_high v_withinCase v_rangeBegin v_rangeEnd Q := by
  have q_t : (bz true).toInt = 1 := rfl
  have q_f : (bz false).toInt = 0 := rfl
  have q_0 : (0 : Int32).toInt = 0 := rfl
  have q_1 : (1 : Int32).toInt = 1 := rfl
  unfold w_X10_takes
  refine ok_X10_sortOf (by omega) (by omega) (fun r2 f1 => ?_)
  refine ⟨fun c5_0 => ?_, fun c5_1 => ?_, fun c5_2 => ?_, ?_⟩
  · have f2 : r2.toInt = 0 := i_eq (a := r2.toInt) (b := 0) rfl rfl c5_0
    refine ok_X10_valueOf (by omega) (by omega) (fun r35 f3 => ?_)
    have j_66 : ∀ (s0_66 : Int32), ((s0_66.toInt = 0) ∨ (s0_66.toInt = 1)) → w_X10_takes_66 Q s0_66 := by
      intro s0_66 f4
      unfold w_X10_takes_66
      refine ⟨i_01 (by omega) (by omega), ?_⟩
      exact hq s0_66 (by omega) (by omega)
    have j_61 : w_X10_takes_61 Q := by
      unfold w_X10_takes_61
      exact j_66 1 (by omega)
    refine ⟨fun c38 => ?_, fun c38 => ?_⟩
    · have f5 : p2.toInt = r35.toInt := i_eq (a := p2.toInt) (b := r35.toInt) rfl rfl c38
      exact j_61  
    · have f6 : p2.toInt ≠ r35.toInt := i_ne (a := p2.toInt) (b := r35.toInt) rfl rfl c38
      refine ok_X10_isWithinCase (by omega) (by omega) (fun r43 f7 => ?_)
      have j_65 : w_X10_takes_65 Q := by
        unfold w_X10_takes_65
        exact j_66 0 (by omega)
      refine ⟨fun c46 => ?_, fun c46 => ?_⟩
      · have f8 : r43.toInt = 0 := i_eq (a := r43.toInt) (b := 0) rfl rfl c46
        exact j_65  
      · have f9 : r43.toInt ≠ 0 := i_ne (a := r43.toInt) (b := 0) rfl rfl c46
        refine ok_X11_otherCase  (fun r50 => ?_)
        refine ok_X10_valueOf (by omega) (by omega) (fun r55 f10 => ?_)
        refine ⟨fun c58 => ?_, fun c58 => ?_⟩
        · have f11 : r50.toInt ≠ r55.toInt := i_ne (a := r50.toInt) (b := r55.toInt) rfl rfl c58
          exact j_65  
        · have f12 : r50.toInt = r55.toInt := i_eq (a := r50.toInt) (b := r55.toInt) rfl rfl c58
          exact j_61  
  · have f13 : r2.toInt = 1 := i_eq (a := r2.toInt) (b := 1) rfl rfl c5_1
    have j_78 : ∀ (s0_78 : Int32), ((s0_78.toInt = 0 ∧ p2.toInt = 10) ∨ (s0_78.toInt = 1)) → w_X10_takes_78 Q s0_78 := by
      intro s0_78 f14
      unfold w_X10_takes_78
      refine ⟨i_01 (by omega) (by omega), ?_⟩
      exact hq s0_78 (by omega) (by omega)
    refine ⟨fun c70 => ?_, fun c70 => ?_⟩
    · have f15 : p2.toInt = 10 := i_eq (a := p2.toInt) (b := 10) rfl rfl c70
      exact j_78 0 (by omega)
    · have f16 : p2.toInt ≠ 10 := i_ne (a := p2.toInt) (b := 10) rfl rfl c70
      exact j_78 1 (by omega)
  · have f17 : r2.toInt = 2 := i_eq (a := r2.toInt) (b := 2) rfl rfl c5_2
    refine ok_X10_hasInParts (by omega) (by omega) (by omega) (by omega) (fun r82 f18 => ?_)
    have j_113 : ∀ (s0_113 : Int32), ((s0_113.toInt = 0 ∧ r82.toInt = 0) ∨ (s0_113.toInt = 1)) → w_X10_takes_113 p1 v_count v_value Q s0_113 := by
      intro s0_113 f19
      unfold w_X10_takes_113
      refine ok_X10_valueOf (by omega) (by omega) (fun r117 f20 => ?_)
      have j_128 : ∀ (s0_128 : Int32), ((s0_128.toInt = 0) ∨ (s0_128.toInt = 1 ∧ r117.toInt = 0)) → w_X10_takes_128 Q s0_128 s0_113 := by
        intro s0_128 f21
        unfold w_X10_takes_128
        have j_136 : ∀ (s0_136 : Int32), ((s0_136.toInt = 0) ∨ (s0_136.toInt = 1 ∧ s0_113.toInt = s0_128.toInt)) → w_X10_takes_136 Q s0_136 := by
          intro s0_136 f22
          unfold w_X10_takes_136
          refine ⟨i_01 (by omega) (by omega), ?_⟩
          exact hq s0_136 (by omega) (by omega)
        refine ⟨fun c128 => ?_, fun c128 => ?_⟩
        · have f23 : s0_113.toInt ≠ s0_128.toInt := i_ne (a := s0_113.toInt) (b := s0_128.toInt) rfl rfl c128
          exact j_136 0 (by omega)
        · have f24 : s0_113.toInt = s0_128.toInt := i_eq (a := s0_113.toInt) (b := s0_128.toInt) rfl rfl c128
          exact j_136 1 (by omega)
      refine ⟨fun c120 => ?_, fun c120 => ?_⟩
      · have f25 : r117.toInt ≠ 0 := i_ne (a := r117.toInt) (b := 0) rfl rfl c120
        exact j_128 0 (by omega)
      · have f26 : r117.toInt = 0 := i_eq (a := r117.toInt) (b := 0) rfl rfl c120
        exact j_128 1 (by omega)
    have j_108 : w_X10_takes_108 p1 v_count v_value Q := by
      unfold w_X10_takes_108
      exact j_113 1 (by omega)
    refine ⟨fun c85 => ?_, fun c85 => ?_⟩
    · have f27 : r82.toInt ≠ 0 := i_ne (a := r82.toInt) (b := 0) rfl rfl c85
      exact j_108  
    · have f28 : r82.toInt = 0 := i_eq (a := r82.toInt) (b := 0) rfl rfl c85
      refine ok_X10_isWithinCase (by omega) (by omega) (fun r90 f29 => ?_)
      have j_112 : w_X10_takes_112 p1 v_count v_value Q := by
        unfold w_X10_takes_112
        exact j_113 0 (by omega)
      refine ⟨fun c93 => ?_, fun c93 => ?_⟩
      · have f30 : r90.toInt = 0 := i_eq (a := r90.toInt) (b := 0) rfl rfl c93
        exact j_112  
      · have f31 : r90.toInt ≠ 0 := i_ne (a := r90.toInt) (b := 0) rfl rfl c93
        refine ok_X11_otherCase  (fun r99 => ?_)
        refine ok_X10_hasInParts (by omega) (by omega) (by omega) (by omega) (fun r102 f32 => ?_)
        refine ⟨fun c105 => ?_, fun c105 => ?_⟩
        · have f33 : r102.toInt = 0 := i_eq (a := r102.toInt) (b := 0) rfl rfl c105
          exact j_112  
        · have f34 : r102.toInt ≠ 0 := i_ne (a := r102.toInt) (b := 0) rfl rfl c105
          exact j_108  
  · intro c5_0 c5_1 c5_2
    have f35 : r2.toInt ≠ 0 := i_ne (a := r2.toInt) (b := 0) rfl rfl c5_0
    have f36 : r2.toInt ≠ 1 := i_ne (a := r2.toInt) (b := 1) rfl rfl c5_1
    have f37 : r2.toInt ≠ 2 := i_ne (a := r2.toInt) (b := 2) rfl rfl c5_2
    exact hq 0 (by omega) (by omega)
set_option maxHeartbeats 4000000 in
theorem ok_X10_beginsWith {p1 : Int32} {p2 : Int32} {v_count : Int32} {v_ranges : Int32} {v_sort : Nat → Int32} {v_holder : Nat → Int32} {v_end : Nat → Int32} {v_value : Nat → Int32} {v_low : Nat → Int32} {v_high : Nat → Int32} {v_mayBeEmpty : Nat → Bool} {v_withinCase : Nat → Bool} {v_marked : Nat → Bool} {v_rangeBegin : Nat → Int32} {v_rangeEnd : Nat → Int32} {Q : Int32 → Prop} (a0 : 0 ≤ v_count.toInt) (a1 : v_count.toInt ≤ 256) (a2 : 0 ≤ v_ranges.toInt) (a3 : v_ranges.toInt ≤ 512) (b0 : rp (fun k v => k < v ∧ v ≤ 256) v_end 0 v_count.toInt) (b1 : rp (fun k v => v < k ∧ -1 ≤ v) v_holder 0 v_count.toInt) (hq : ∀ (r : Int32), 0 ≤ r.toInt → r.toInt ≤ 1 → Q r) : w_X10_beginsWith p1 p2 v_count v_ranges v_sort v_holder v_end v_value v_low v_high v_mayBeEmpty v_withinCase v_marked v_rangeBegin v_rangeEnd Q := by
  have q_t : (bz true).toInt = 1 := rfl
  have q_f : (bz false).toInt = 0 := rfl
  have q_0 : (0 : Int32).toInt = 0 := rfl
  have q_1 : (1 : Int32).toInt = 1 := rfl
  unfold w_X10_beginsWith
  refine ok_X10_sortOf (by omega) (by omega) (fun r2 f1 => ?_)
  have j_60 : ((r2.toInt = 0) ∨ (r2.toInt = 1) ∨ (r2.toInt = 2)) → w_X10_beginsWith_60 p1 p2 v_count v_ranges v_sort v_value v_low v_high v_withinCase v_rangeBegin v_rangeEnd Q := by
    intro f2
    unfold w_X10_beginsWith_60
    refine ok_X10_takes (by omega) (by omega) (by omega) (by omega) (fun r63 f3 f4 => ?_)
    refine ⟨i_01 (by omega) (by omega), ?_⟩
    exact hq r63 (by omega) (by omega)
  have j_69 : ((r2.toInt = 3) ∨ (r2.toInt = 9)) → w_X10_beginsWith_69 Q := by
    intro f5
    unfold w_X10_beginsWith_69
    exact hq 0 (by omega) (by omega)
  have j_103 : r2.toInt ≠ 0 → r2.toInt ≠ 1 → r2.toInt ≠ 2 → r2.toInt ≠ 3 → r2.toInt ≠ 4 → r2.toInt ≠ 5 → r2.toInt ≠ 7 → r2.toInt ≠ 9 → w_X10_beginsWith_103 p1 v_count v_holder v_end v_marked Q := by
    intro f6 f7 f8 f9 f10 f11 f12 f13
    unfold w_X10_beginsWith_103
    refine ok_X10_somePartIsMarked (by omega) (by omega) (rp_mono b0 (by omega) (by omega)) (rp_mono b1 (by omega) (by omega)) (fun r105 f14 => ?_)
    refine ⟨i_01 (by omega) (by omega), ?_⟩
    exact hq r105 (by omega) (by omega)
  refine ⟨fun c5_0 => ?_, fun c5_1 => ?_, fun c5_2 => ?_, fun c5_3 => ?_, fun c5_4 => ?_, fun c5_5 => ?_, fun c5_6 => ?_, fun c5_7 => ?_, ?_⟩
  · have f15 : r2.toInt = 0 := i_eq (a := r2.toInt) (b := 0) rfl rfl c5_0
    exact j_60  (by omega)
  · have f16 : r2.toInt = 1 := i_eq (a := r2.toInt) (b := 1) rfl rfl c5_1
    exact j_60  (by omega)
  · have f17 : r2.toInt = 2 := i_eq (a := r2.toInt) (b := 2) rfl rfl c5_2
    exact j_60  (by omega)
  · have f18 : r2.toInt = 3 := i_eq (a := r2.toInt) (b := 3) rfl rfl c5_3
    exact j_69  (by omega)
  · have f19 : r2.toInt = 4 := i_eq (a := r2.toInt) (b := 4) rfl rfl c5_4
    exact hq 1 (by omega) (by omega)
  · have f20 : r2.toInt = 5 := i_eq (a := r2.toInt) (b := 5) rfl rfl c5_5
    refine ok_X10_rowBegins (by omega) (by omega) (rp_mono b0 (by omega) (by omega)) (rp_mono b1 (by omega) (by omega)) (fun r73 f21 => ?_)
    refine ⟨i_01 (by omega) (by omega), ?_⟩
    exact hq r73 (by omega) (by omega)
  · have f22 : r2.toInt = 7 := i_eq (a := r2.toInt) (b := 7) rfl rfl c5_6
    refine ok_X10_highOf (by omega) (by omega) (fun r79 f23 => ?_)
    have j_102 : ∀ (s0_102 : Int32), ((s0_102.toInt = 1) ∨ (s0_102.toInt = 0)) → w_X10_beginsWith_102 Q s0_102 := by
      intro s0_102 f24
      unfold w_X10_beginsWith_102
      refine ⟨i_01 (by omega) (by omega), ?_⟩
      exact hq s0_102 (by omega) (by omega)
    have j_101 : w_X10_beginsWith_101 Q := by
      unfold w_X10_beginsWith_101
      exact j_102 0 (by omega)
    refine ⟨fun c82 => ?_, fun c82 => ?_⟩
    · have f25 : r79.toInt = 0 := i_eq (a := r79.toInt) (b := 0) rfl rfl c82
      exact j_101  
    · have f26 : r79.toInt ≠ 0 := i_ne (a := r79.toInt) (b := 0) rfl rfl c82
      refine ok_X10_firstOf (by omega) (by omega) (rp_mono b0 (by omega) (by omega)) (fun r88 f27 f28 => ?_)
      refine ok_X10_isMarked (by omega) (by omega) (fun r91 f29 => ?_)
      refine ⟨fun c94 => ?_, fun c94 => ?_⟩
      · have f30 : r91.toInt = 0 := i_eq (a := r91.toInt) (b := 0) rfl rfl c94
        exact j_101  
      · have f31 : r91.toInt ≠ 0 := i_ne (a := r91.toInt) (b := 0) rfl rfl c94
        exact j_102 1 (by omega)
  · have f32 : r2.toInt = 9 := i_eq (a := r2.toInt) (b := 9) rfl rfl c5_7
    exact j_69  (by omega)
  · intro c5_0 c5_1 c5_2 c5_3 c5_4 c5_5 c5_6 c5_7
    have f33 : r2.toInt ≠ 0 := i_ne (a := r2.toInt) (b := 0) rfl rfl c5_0
    have f34 : r2.toInt ≠ 1 := i_ne (a := r2.toInt) (b := 1) rfl rfl c5_1
    have f35 : r2.toInt ≠ 2 := i_ne (a := r2.toInt) (b := 2) rfl rfl c5_2
    have f36 : r2.toInt ≠ 3 := i_ne (a := r2.toInt) (b := 3) rfl rfl c5_3
    have f37 : r2.toInt ≠ 4 := i_ne (a := r2.toInt) (b := 4) rfl rfl c5_4
    have f38 : r2.toInt ≠ 5 := i_ne (a := r2.toInt) (b := 5) rfl rfl c5_5
    have f39 : r2.toInt ≠ 7 := i_ne (a := r2.toInt) (b := 7) rfl rfl c5_6
    have f40 : r2.toInt ≠ 9 := i_ne (a := r2.toInt) (b := 9) rfl rfl c5_7
    exact j_103  (by omega) (by omega) (by omega) (by omega) (by omega) (by omega) (by omega) (by omega)
set_option maxHeartbeats 4000000 in
theorem ok_X10_markBeginning {p1 : Int32} {v_count : Int32} {v_ranges : Int32} {v_sort : Nat → Int32} {v_holder : Nat → Int32} {v_end : Nat → Int32} {v_value : Nat → Int32} {v_low : Nat → Int32} {v_high : Nat → Int32} {v_mayBeEmpty : Nat → Bool} {v_withinCase : Nat → Bool} {v_marked : Nat → Bool} {v_rangeBegin : Nat → Int32} {v_rangeEnd : Nat → Int32} {Q : (Nat → Bool) → Prop} (a0 : 0 ≤ v_count.toInt) (a1 : v_count.toInt ≤ 256) (a2 : 0 ≤ v_ranges.toInt) (a3 : v_ranges.toInt ≤ 512) (b0 : rp (fun k v => k < v ∧ v ≤ 256) v_end 0 v_count.toInt) (b1 : rp (fun k v => v < k ∧ -1 ≤ v) v_holder 0 v_count.toInt) (hq : ∀ (ov_marked : Nat → Bool), Q ov_marked) : w_X10_markBeginning p1 v_count v_ranges v_sort v_holder v_end v_value v_low v_high v_mayBeEmpty v_withinCase v_marked v_rangeBegin v_rangeEnd Q := by
  have q_t : (bz true).toInt = 1 := rfl
  have q_f : (bz false).toInt = 0 := rfl
  unfold w_X10_markBeginning
  intro x5 ex5
  have f1 : x5.toInt = v_count.toInt - 1 := i_sub (a := v_count.toInt) (b := 1) ex5 rfl rfl (by omega) (by omega)
  have j_7 : ∀ n_7 : Nat, ∀ (l2_7 : Int32) (v_marked_7 : Nat → Bool), 0 ≤ l2_7.toInt + 1 → l2_7.toInt + 1 ≤ v_count.toInt → (l2_7.toInt + 2147483649).toNat < n_7 → w_X10_markBeginning_7 p1 v_count v_ranges v_sort v_holder v_end v_value v_low v_high v_mayBeEmpty v_withinCase v_rangeBegin v_rangeEnd Q n_7 l2_7 v_marked_7 := by
    intro n_7
    induction n_7 with
    | zero =>
      intro l2_7 v_marked_7 f2 f3 hm_7
      exfalso; omega
    | succ n_7 ih_7 =>
      intro l2_7 v_marked_7 f2 f3 hm_7
      unfold w_X10_markBeginning_7
      unfold w_X10_markBeginning_7B
      refine ok_X10_has (by omega) (by omega) (fun r9 f4 => ?_)
      refine ⟨fun c12 => ?_, fun c12 => ?_⟩
      · have f5 : r9.toInt = 0 := i_eq (a := r9.toInt) (b := 0) rfl rfl c12
        exact hq v_marked_7 
      · have f6 : r9.toInt ≠ 0 := i_ne (a := r9.toInt) (b := 0) rfl rfl c12
        refine ok_X10_beginsWith (by omega) (by omega) (by omega) (by omega) (rp_mono b0 (by omega) (by omega)) (rp_mono b1 (by omega) (by omega)) (fun r23 f7 f8 => ?_)
        refine ⟨i_in (by omega) (by omega), ?_⟩
        intro g26 eg26
        intro x27 ex27
        have f9 : x27.toInt = l2_7.toInt + (-1) := i_add (a := l2_7.toInt) (b := (-1)) ex27 rfl rfl (by omega) (by omega)
        exact ih_7 x27 g26 (by omega) (by omega) (by have h8_0 := i_rng l2_7; have h8_1 := i_rng x27; omega)
  exact ⟨(x5.toInt + 2147483649).toNat + 1, j_7   ((x5.toInt + 2147483649).toNat + 1) x5 v_marked (by omega) (by omega) (by omega)⟩
set_option maxHeartbeats 4000000 in
theorem ok_X10_maybeEmpty {p1 : Int32} {p2 : Int32} {p3 : Int32} {v_count : Int32} {v_sort : Nat → Int32} {v_low : Nat → Int32} {Q : Int32 → Prop} (a0 : 0 ≤ v_count.toInt) (a1 : v_count.toInt ≤ 256) (a2 : 0 ≤ p2.toInt) (a3 : p2.toInt ≤ 1) (a4 : 0 ≤ p3.toInt) (a5 : p3.toInt ≤ 1) (hq : ∀ (r : Int32), 0 ≤ r.toInt → r.toInt ≤ 1 → Q r) : w_X10_maybeEmpty p1 p2 p3 v_count v_sort v_low Q := by
  have q_t : (bz true).toInt = 1 := rfl
  have q_f : (bz false).toInt = 0 := rfl
  have q_0 : (0 : Int32).toInt = 0 := rfl
  have q_1 : (1 : Int32).toInt = 1 := rfl
  unfold w_X10_maybeEmpty
  refine ok_X10_sortOf (by omega) (by omega) (fun r2 f1 => ?_)
  have j_60 : ((r2.toInt = 0) ∨ (r2.toInt = 1) ∨ (r2.toInt = 2)) → w_X10_maybeEmpty_60 Q := by
    intro f2
    unfold w_X10_maybeEmpty_60
    exact hq 0 (by omega) (by omega)
  have j_62 : ((r2.toInt = 3) ∨ (r2.toInt = 4) ∨ (r2.toInt = 9)) → w_X10_maybeEmpty_62 Q := by
    intro f3
    unfold w_X10_maybeEmpty_62
    exact hq 1 (by omega) (by omega)
  have j_84 : r2.toInt ≠ 0 → r2.toInt ≠ 1 → r2.toInt ≠ 2 → r2.toInt ≠ 3 → r2.toInt ≠ 4 → r2.toInt ≠ 6 → r2.toInt ≠ 7 → r2.toInt ≠ 9 → w_X10_maybeEmpty_84 p2 Q := by
    intro f4 f5 f6 f7 f8 f9 f10 f11
    unfold w_X10_maybeEmpty_84
    refine ⟨i_01 (by omega) (by omega), ?_⟩
    exact hq p2 (by omega) (by omega)
  refine ⟨fun c5_0 => ?_, fun c5_1 => ?_, fun c5_2 => ?_, fun c5_3 => ?_, fun c5_4 => ?_, fun c5_5 => ?_, fun c5_6 => ?_, fun c5_7 => ?_, ?_⟩
  · have f12 : r2.toInt = 0 := i_eq (a := r2.toInt) (b := 0) rfl rfl c5_0
    exact j_60  (by omega)
  · have f13 : r2.toInt = 1 := i_eq (a := r2.toInt) (b := 1) rfl rfl c5_1
    exact j_60  (by omega)
  · have f14 : r2.toInt = 2 := i_eq (a := r2.toInt) (b := 2) rfl rfl c5_2
    exact j_60  (by omega)
  · have f15 : r2.toInt = 3 := i_eq (a := r2.toInt) (b := 3) rfl rfl c5_3
    exact j_62  (by omega)
  · have f16 : r2.toInt = 4 := i_eq (a := r2.toInt) (b := 4) rfl rfl c5_4
    exact j_62  (by omega)
  · have f17 : r2.toInt = 6 := i_eq (a := r2.toInt) (b := 6) rfl rfl c5_5
    refine ⟨i_01 (by omega) (by omega), ?_⟩
    exact hq p3 (by omega) (by omega)
  · have f18 : r2.toInt = 7 := i_eq (a := r2.toInt) (b := 7) rfl rfl c5_6
    refine ok_X10_lowOf (by omega) (by omega) (fun r68 f19 => ?_)
    have j_83 : ∀ (s0_83 : Int32), ((s0_83.toInt = 0 ∧ p3.toInt = 0) ∨ (s0_83.toInt = 1)) → w_X10_maybeEmpty_83 Q s0_83 := by
      intro s0_83 f20
      unfold w_X10_maybeEmpty_83
      refine ⟨i_01 (by omega) (by omega), ?_⟩
      exact hq s0_83 (by omega) (by omega)
    have j_78 : w_X10_maybeEmpty_78 Q := by
      unfold w_X10_maybeEmpty_78
      exact j_83 1 (by omega)
    refine ⟨fun c71 => ?_, fun c71 => ?_⟩
    · have f21 : r68.toInt = 0 := i_eq (a := r68.toInt) (b := 0) rfl rfl c71
      exact j_78  
    · have f22 : r68.toInt ≠ 0 := i_ne (a := r68.toInt) (b := 0) rfl rfl c71
      refine ⟨fun c75 => ?_, fun c75 => ?_⟩
      · have f23 : p3.toInt = 0 := i_eq (a := p3.toInt) (b := 0) rfl rfl c75
        exact j_83 0 (by omega)
      · have f24 : p3.toInt ≠ 0 := i_ne (a := p3.toInt) (b := 0) rfl rfl c75
        exact j_78  
  · have f25 : r2.toInt = 9 := i_eq (a := r2.toInt) (b := 9) rfl rfl c5_7
    exact j_62  (by omega)
  · intro c5_0 c5_1 c5_2 c5_3 c5_4 c5_5 c5_6 c5_7
    have f26 : r2.toInt ≠ 0 := i_ne (a := r2.toInt) (b := 0) rfl rfl c5_0
    have f27 : r2.toInt ≠ 1 := i_ne (a := r2.toInt) (b := 1) rfl rfl c5_1
    have f28 : r2.toInt ≠ 2 := i_ne (a := r2.toInt) (b := 2) rfl rfl c5_2
    have f29 : r2.toInt ≠ 3 := i_ne (a := r2.toInt) (b := 3) rfl rfl c5_3
    have f30 : r2.toInt ≠ 4 := i_ne (a := r2.toInt) (b := 4) rfl rfl c5_4
    have f31 : r2.toInt ≠ 6 := i_ne (a := r2.toInt) (b := 6) rfl rfl c5_5
    have f32 : r2.toInt ≠ 7 := i_ne (a := r2.toInt) (b := 7) rfl rfl c5_6
    have f33 : r2.toInt ≠ 9 := i_ne (a := r2.toInt) (b := 9) rfl rfl c5_7
    exact j_84  (by omega) (by omega) (by omega) (by omega) (by omega) (by omega) (by omega) (by omega)
set_option maxHeartbeats 4000000 in
theorem ok_X10_partsOf {p1 : Int32} {v_count : Int32} {v_sort : Nat → Int32} {v_parts : Nat → Int32} {v_high : Nat → Int32} {Q : Int32 → Prop} (a0 : 0 ≤ v_count.toInt) (a1 : v_count.toInt ≤ 256) (hq : ∀ (r : Int32), ((0 ≤ p1.toInt ∧ p1.toInt + 1 ≤ v_count.toInt) ∨ (r.toInt = 0)) → Q r) : w_X10_partsOf p1 v_count v_sort v_parts v_high Q := by
  have q_t : (bz true).toInt = 1 := rfl
  have q_f : (bz false).toInt = 0 := rfl
  have q_0 : (0 : Int32).toInt = 0 := rfl
  unfold w_X10_partsOf
  have j_12 : ((p1.toInt + 1 ≤ 0) ∨ (0 ≤ p1.toInt ∧ v_count.toInt ≤ p1.toInt)) → w_X10_partsOf_12 Q := by
    intro f1
    unfold w_X10_partsOf_12
    exact hq 0 (by omega)
  refine ⟨fun c1 => ?_, fun c1 => ?_⟩
  · have f2 : p1.toInt < 0 := i_lt (a := p1.toInt) (b := 0) rfl rfl c1
    exact j_12  (by omega)
  · have f3 : 0 ≤ p1.toInt := i_nlt (a := p1.toInt) (b := 0) rfl rfl c1
    refine ⟨fun c9 => ?_, fun c9 => ?_⟩
    · have f4 : p1.toInt < v_count.toInt := i_lt (a := p1.toInt) (b := v_count.toInt) rfl rfl c9
      refine ⟨i_in (by omega) (by omega), ?_⟩
      intro x19 ex19
      have j_39 : ∀ (s0_39 : Int32), w_X10_partsOf_39 Q s0_39 := by
        intro s0_39
        unfold w_X10_partsOf_39
        exact hq s0_39 (by omega)
      refine ⟨fun c21 => ?_, fun c21 => ?_⟩
      · have f5 : x19.toInt ≠ 2 := i_ne (a := x19.toInt) (b := 2) rfl rfl c21
        refine ⟨i_in (by omega) (by omega), ?_⟩
        intro x38 ex38
        exact j_39 x38 
      · have f6 : x19.toInt = 2 := i_eq (a := x19.toInt) (b := 2) rfl rfl c21
        refine ⟨i_in (by omega) (by omega), ?_⟩
        intro x29 ex29
        exact j_39 x29 
    · have f7 : v_count.toInt ≤ p1.toInt := i_nlt (a := p1.toInt) (b := v_count.toInt) rfl rfl c9
      exact j_12  (by omega)
set_option maxHeartbeats 4000000 in
theorem ok_X10_sameParts {p1 : Int32} {p2 : Int32} {v_count : Int32} {v_ranges : Int32} {v_sort : Nat → Int32} {v_parts : Nat → Int32} {v_low : Nat → Int32} {v_high : Nat → Int32} {v_rangeBegin : Nat → Int32} {v_rangeEnd : Nat → Int32} {Q : Int32 → Prop} (a0 : 0 ≤ v_count.toInt) (a1 : v_count.toInt ≤ 256) (a2 : 0 ≤ v_ranges.toInt) (a3 : v_ranges.toInt ≤ 512) (hq : ∀ (r : Int32), ((r.toInt = 1) ∨ (r.toInt = 0)) → Q r) : w_X10_sameParts p1 p2 v_count v_ranges v_sort v_parts v_low v_high v_rangeBegin v_rangeEnd Q := by
  have q_t : (bz true).toInt = 1 := rfl
  have q_f : (bz false).toInt = 0 := rfl
  have q_0 : (0 : Int32).toInt = 0 := rfl
  have q_1 : (1 : Int32).toInt = 1 := rfl
  unfold w_X10_sameParts
  have j_2 : ∀ n_2 : Nat, ∀ (l3_2 : Int32), 0 ≤ l3_2.toInt → ((-1) * l3_2.toInt + 2147483648).toNat < n_2 → w_X10_sameParts_2 p1 p2 v_count v_ranges v_sort v_parts v_low v_high v_rangeBegin v_rangeEnd Q n_2 l3_2 := by
    intro n_2
    induction n_2 with
    | zero =>
      intro l3_2 f1 hm_2
      exfalso; omega
    | succ n_2 ih_2 =>
      intro l3_2 f1 hm_2
      unfold w_X10_sameParts_2
      unfold w_X10_sameParts_2B
      refine ok_X10_partsOf (by omega) (by omega) (fun r5 f2 => ?_)
      refine ⟨fun c8 => ?_, fun c8 => ?_⟩
      · have f3 : r5.toInt ≤ l3_2.toInt := i_le (a := r5.toInt) (b := l3_2.toInt) rfl rfl c8
        exact hq 1 (by omega)
      · have f4 : l3_2.toInt < r5.toInt := i_nle (a := r5.toInt) (b := l3_2.toInt) rfl rfl c8
        refine ok_X10_partBegin (by omega) (by omega) (by omega) (by omega) (fun r14 => ?_)
        refine ok_X10_partBegin (by omega) (by omega) (by omega) (by omega) (fun r20 => ?_)
        have j_41 : w_X10_sameParts_41 Q := by
          unfold w_X10_sameParts_41
          exact hq 0 (by omega)
        refine ⟨fun c23 => ?_, fun c23 => ?_⟩
        · have f5 : r14.toInt ≠ r20.toInt := i_ne (a := r14.toInt) (b := r20.toInt) rfl rfl c23
          exact j_41  
        · have f6 : r14.toInt = r20.toInt := i_eq (a := r14.toInt) (b := r20.toInt) rfl rfl c23
          refine ok_X10_partEnd (by omega) (by omega) (by omega) (by omega) (fun r29 => ?_)
          refine ok_X10_partEnd (by omega) (by omega) (by omega) (by omega) (fun r35 => ?_)
          refine ⟨fun c38 => ?_, fun c38 => ?_⟩
          · have f7 : r29.toInt = r35.toInt := i_eq (a := r29.toInt) (b := r35.toInt) rfl rfl c38
            intro x43 ex43
            have f8 : x43.toInt = l3_2.toInt + 1 := i_add (a := l3_2.toInt) (b := 1) ex43 rfl rfl (by omega) (by have h8_0 := i_rng l3_2; have h8_1 := i_rng p1; have h8_2 := i_rng r5; have h8_3 := i_rng v_count; omega)
            exact ih_2 x43 (by omega) (by have h8_0 := i_rng l3_2; have h8_1 := i_rng x43; omega)
          · have f9 : r29.toInt ≠ r35.toInt := i_ne (a := r29.toInt) (b := r35.toInt) rfl rfl c38
            exact j_41  
  exact ⟨(2147483648 : Int).toNat + 1, j_2   ((2147483648 : Int).toNat + 1) 0 (by omega) (by omega)⟩
set_option maxHeartbeats 4000000 in
theorem ok_X10_nodeAlike {p1 : Int32} {p2 : Int32} {v_count : Int32} {v_ranges : Int32} {v_sort : Nat → Int32} {v_parts : Nat → Int32} {v_value : Nat → Int32} {v_low : Nat → Int32} {v_high : Nat → Int32} {v_rangeBegin : Nat → Int32} {v_rangeEnd : Nat → Int32} {Q : Int32 → Prop} (a0 : 0 ≤ v_count.toInt) (a1 : v_count.toInt ≤ 256) (a2 : 0 ≤ v_ranges.toInt) (a3 : v_ranges.toInt ≤ 512) (hq : ∀ (r : Int32), 0 ≤ r.toInt → r.toInt ≤ 1 → Q r) : w_X10_nodeAlike p1 p2 v_count v_ranges v_sort v_parts v_value v_low v_high v_rangeBegin v_rangeEnd Q := by
  have q_t : (bz true).toInt = 1 := rfl
  have q_f : (bz false).toInt = 0 := rfl
  have q_0 : (0 : Int32).toInt = 0 := rfl
  have q_1 : (1 : Int32).toInt = 1 := rfl
  unfold w_X10_nodeAlike
  refine ok_X10_sortOf (by omega) (by omega) (fun r2 f1 => ?_)
  refine ok_X10_sortOf (by omega) (by omega) (fun r7 f2 => ?_)
  have j_26 : w_X10_nodeAlike_26 Q := by
    unfold w_X10_nodeAlike_26
    exact hq 0 (by omega) (by omega)
  refine ⟨fun c10 => ?_, fun c10 => ?_⟩
  · have f3 : r2.toInt ≠ r7.toInt := i_ne (a := r2.toInt) (b := r7.toInt) rfl rfl c10
    exact j_26  
  · have f4 : r2.toInt = r7.toInt := i_eq (a := r2.toInt) (b := r7.toInt) rfl rfl c10
    refine ok_X10_partsOf (by omega) (by omega) (fun r15 f5 => ?_)
    refine ok_X10_partsOf (by omega) (by omega) (fun r20 f6 => ?_)
    refine ⟨fun c23 => ?_, fun c23 => ?_⟩
    · have f7 : r15.toInt = r20.toInt := i_eq (a := r15.toInt) (b := r20.toInt) rfl rfl c23
      refine ok_X10_sortOf (by omega) (by omega) (fun r30 f8 => ?_)
      refine ⟨fun c33_0 => ?_, fun c33_1 => ?_, fun c33_2 => ?_, ?_⟩
      · have f9 : r30.toInt = 2 := i_eq (a := r30.toInt) (b := 2) rfl rfl c33_0
        refine ok_X10_valueOf (by omega) (by omega) (fun r70 f10 => ?_)
        refine ok_X10_valueOf (by omega) (by omega) (fun r75 f11 => ?_)
        have j_95 : ∀ (s0_95 : Int32), ((s0_95.toInt = 1 ∧ r70.toInt = r75.toInt) ∨ (s0_95.toInt = 0)) → w_X10_nodeAlike_95 Q s0_95 := by
          intro s0_95 f12
          unfold w_X10_nodeAlike_95
          refine ⟨i_01 (by omega) (by omega), ?_⟩
          exact hq s0_95 (by omega) (by omega)
        have j_94 : w_X10_nodeAlike_94 Q := by
          unfold w_X10_nodeAlike_94
          exact j_95 0 (by omega)
        refine ⟨fun c78 => ?_, fun c78 => ?_⟩
        · have f13 : r70.toInt ≠ r75.toInt := i_ne (a := r70.toInt) (b := r75.toInt) rfl rfl c78
          exact j_94  
        · have f14 : r70.toInt = r75.toInt := i_eq (a := r70.toInt) (b := r75.toInt) rfl rfl c78
          refine ok_X10_sameParts (by omega) (by omega) (by omega) (by omega) (fun r84 f15 => ?_)
          refine ⟨fun c87 => ?_, fun c87 => ?_⟩
          · have f16 : r84.toInt = 0 := i_eq (a := r84.toInt) (b := 0) rfl rfl c87
            exact j_94  
          · have f17 : r84.toInt ≠ 0 := i_ne (a := r84.toInt) (b := 0) rfl rfl c87
            exact j_95 1 (by omega)
      · have f18 : r30.toInt = 7 := i_eq (a := r30.toInt) (b := 7) rfl rfl c33_1
        refine ok_X10_valueOf (by omega) (by omega) (fun r98 f19 => ?_)
        refine ok_X10_valueOf (by omega) (by omega) (fun r103 f20 => ?_)
        have j_140 : ∀ (s0_140 : Int32), ((s0_140.toInt = 1 ∧ r98.toInt = r103.toInt) ∨ (s0_140.toInt = 0)) → w_X10_nodeAlike_140 Q s0_140 := by
          intro s0_140 f21
          unfold w_X10_nodeAlike_140
          refine ⟨i_01 (by omega) (by omega), ?_⟩
          exact hq s0_140 (by omega) (by omega)
        have j_139 : w_X10_nodeAlike_139 Q := by
          unfold w_X10_nodeAlike_139
          exact j_140 0 (by omega)
        refine ⟨fun c106 => ?_, fun c106 => ?_⟩
        · have f22 : r98.toInt ≠ r103.toInt := i_ne (a := r98.toInt) (b := r103.toInt) rfl rfl c106
          exact j_139  
        · have f23 : r98.toInt = r103.toInt := i_eq (a := r98.toInt) (b := r103.toInt) rfl rfl c106
          refine ok_X10_lowOf (by omega) (by omega) (fun r111 f24 => ?_)
          refine ok_X10_lowOf (by omega) (by omega) (fun r116 f25 => ?_)
          refine ⟨fun c119 => ?_, fun c119 => ?_⟩
          · have f26 : r111.toInt ≠ r116.toInt := i_ne (a := r111.toInt) (b := r116.toInt) rfl rfl c119
            exact j_139  
          · have f27 : r111.toInt = r116.toInt := i_eq (a := r111.toInt) (b := r116.toInt) rfl rfl c119
            refine ok_X10_highOf (by omega) (by omega) (fun r124 f28 => ?_)
            refine ok_X10_highOf (by omega) (by omega) (fun r129 f29 => ?_)
            refine ⟨fun c132 => ?_, fun c132 => ?_⟩
            · have f30 : r124.toInt ≠ r129.toInt := i_ne (a := r124.toInt) (b := r129.toInt) rfl rfl c132
              exact j_139  
            · have f31 : r124.toInt = r129.toInt := i_eq (a := r124.toInt) (b := r129.toInt) rfl rfl c132
              exact j_140 1 (by omega)
      · have f32 : r30.toInt = 8 := i_eq (a := r30.toInt) (b := 8) rfl rfl c33_2
        refine ok_X10_lowOf (by omega) (by omega) (fun r143 f33 => ?_)
        refine ok_X10_lowOf (by omega) (by omega) (fun r148 f34 => ?_)
        have j_159 : ∀ (s0_159 : Int32), ((s0_159.toInt = 0) ∨ (s0_159.toInt = 1 ∧ r143.toInt = r148.toInt)) → w_X10_nodeAlike_159 Q s0_159 := by
          intro s0_159 f35
          unfold w_X10_nodeAlike_159
          refine ⟨i_01 (by omega) (by omega), ?_⟩
          exact hq s0_159 (by omega) (by omega)
        refine ⟨fun c151 => ?_, fun c151 => ?_⟩
        · have f36 : r143.toInt ≠ r148.toInt := i_ne (a := r143.toInt) (b := r148.toInt) rfl rfl c151
          exact j_159 0 (by omega)
        · have f37 : r143.toInt = r148.toInt := i_eq (a := r143.toInt) (b := r148.toInt) rfl rfl c151
          exact j_159 1 (by omega)
      · intro c33_0 c33_1 c33_2
        have f38 : r30.toInt ≠ 2 := i_ne (a := r30.toInt) (b := 2) rfl rfl c33_0
        have f39 : r30.toInt ≠ 7 := i_ne (a := r30.toInt) (b := 7) rfl rfl c33_1
        have f40 : r30.toInt ≠ 8 := i_ne (a := r30.toInt) (b := 8) rfl rfl c33_2
        refine ok_X10_valueOf (by omega) (by omega) (fun r162 f41 => ?_)
        refine ok_X10_valueOf (by omega) (by omega) (fun r167 f42 => ?_)
        have j_178 : ∀ (s0_178 : Int32), ((s0_178.toInt = 0) ∨ (s0_178.toInt = 1 ∧ r162.toInt = r167.toInt)) → w_X10_nodeAlike_178 Q s0_178 := by
          intro s0_178 f43
          unfold w_X10_nodeAlike_178
          refine ⟨i_01 (by omega) (by omega), ?_⟩
          exact hq s0_178 (by omega) (by omega)
        refine ⟨fun c170 => ?_, fun c170 => ?_⟩
        · have f44 : r162.toInt ≠ r167.toInt := i_ne (a := r162.toInt) (b := r167.toInt) rfl rfl c170
          exact j_178 0 (by omega)
        · have f45 : r162.toInt = r167.toInt := i_eq (a := r162.toInt) (b := r167.toInt) rfl rfl c170
          exact j_178 1 (by omega)
    · have f46 : r15.toInt ≠ r20.toInt := i_ne (a := r15.toInt) (b := r20.toInt) rfl rfl c23
      exact j_26  
set_option maxHeartbeats 4000000 in
theorem ok_X10_printAlike {p1 : Int32} {p2 : Int32} {v_count : Int32} {v_ranges : Int32} {v_sort : Nat → Int32} {v_end : Nat → Int32} {v_parts : Nat → Int32} {v_value : Nat → Int32} {v_low : Nat → Int32} {v_high : Nat → Int32} {v_rangeBegin : Nat → Int32} {v_rangeEnd : Nat → Int32} {Q : Int32 → Prop} (a0 : 0 ≤ v_count.toInt) (a1 : v_count.toInt ≤ 256) (a2 : 0 ≤ v_ranges.toInt) (a3 : v_ranges.toInt ≤ 512) (b0 : rp (fun k v => k < v ∧ v ≤ 256) v_end 0 v_count.toInt) (hq : ∀ (r : Int32), ((r.toInt = 0) ∨ (r.toInt = 1)) → Q r) : w_X10_printAlike p1 p2 v_count v_ranges v_sort v_end v_parts v_value v_low v_high v_rangeBegin v_rangeEnd Q := by
  have q_t : (bz true).toInt = 1 := rfl
  have q_f : (bz false).toInt = 0 := rfl
  have q_0 : (0 : Int32).toInt = 0 := rfl
  have q_1 : (1 : Int32).toInt = 1 := rfl
  unfold w_X10_printAlike
  refine ok_X10_endOf (by omega) (by omega) (rp_mono b0 (by omega) (by omega)) (fun r2 f1 => ?_)
  intro x6 ex6
  refine ok_X10_endOf (by omega) (by omega) (rp_mono b0 (by omega) (by omega)) (fun r11 f2 => ?_)
  intro x15 ex15
  refine ⟨fun c16 => ?_, fun c16 => ?_⟩
  · have f3 : x6.toInt = x15.toInt := i_eq (a := x6.toInt) (b := x15.toInt) rfl rfl c16
    have j_24 : ∀ n_24 : Nat, ∀ (l4_24 : Int32), 0 ≤ l4_24.toInt → ((-1) * l4_24.toInt + 2147483648).toNat < n_24 → w_X10_printAlike_24 p1 p2 v_count v_ranges v_sort v_parts v_value v_low v_high v_rangeBegin v_rangeEnd Q x6 n_24 l4_24 := by
      intro n_24
      induction n_24 with
      | zero =>
        intro l4_24 f4 hm_24
        exfalso; omega
      | succ n_24 ih_24 =>
        intro l4_24 f4 hm_24
        unfold w_X10_printAlike_24
        unfold w_X10_printAlike_24B
        refine ⟨fun c27 => ?_, fun c27 => ?_⟩
        · have f5 : x6.toInt ≤ l4_24.toInt := i_le (a := x6.toInt) (b := l4_24.toInt) rfl rfl c27
          exact hq 1 (by omega)
        · have f6 : l4_24.toInt < x6.toInt := i_nle (a := x6.toInt) (b := l4_24.toInt) rfl rfl c27
          intro x34 ex34
          intro x38 ex38
          refine ok_X10_nodeAlike (by omega) (by omega) (by omega) (by omega) (fun r39 f7 f8 => ?_)
          refine ⟨fun c42 => ?_, fun c42 => ?_⟩
          · have f9 : r39.toInt ≠ 0 := i_ne (a := r39.toInt) (b := 0) rfl rfl c42
            intro x47 ex47
            have f10 : x47.toInt = l4_24.toInt + 1 := i_add (a := l4_24.toInt) (b := 1) ex47 rfl rfl (by omega) (by have h8_0 := i_rng l4_24; have h8_1 := i_rng x15; have h8_2 := i_rng x6; omega)
            exact ih_24 x47 (by omega) (by have h8_0 := i_rng l4_24; have h8_1 := i_rng x47; omega)
          · have f11 : r39.toInt = 0 := i_eq (a := r39.toInt) (b := 0) rfl rfl c42
            exact hq 0 (by omega)
    exact ⟨(2147483648 : Int).toNat + 1, j_24   ((2147483648 : Int).toNat + 1) 0 (by omega) (by omega)⟩
  · have f12 : x6.toInt ≠ x15.toInt := i_ne (a := x6.toInt) (b := x15.toInt) rfl rfl c16
    exact hq 0 (by omega)
set_option maxHeartbeats 4000000 in
theorem ok_X10_isSaidAhead {p1 : Int32} {v_count : Int32} {v_ranges : Int32} {v_sort : Nat → Int32} {v_end : Nat → Int32} {v_before : Nat → Int32} {v_parts : Nat → Int32} {v_value : Nat → Int32} {v_low : Nat → Int32} {v_high : Nat → Int32} {v_rangeBegin : Nat → Int32} {v_rangeEnd : Nat → Int32} {Q : Int32 → Prop} (a0 : 0 ≤ v_count.toInt) (a1 : v_count.toInt ≤ 256) (a2 : 0 ≤ v_ranges.toInt) (a3 : v_ranges.toInt ≤ 512) (b0 : rp (fun k v => k < v ∧ v ≤ 256) v_end 0 v_count.toInt) (b1 : rp (fun k v => v < k ∧ -1 ≤ v) v_before 0 v_count.toInt) (hq : ∀ (r : Int32), ((r.toInt = 0) ∨ (r.toInt = 1)) → Q r) : w_X10_isSaidAhead p1 v_count v_ranges v_sort v_end v_before v_parts v_value v_low v_high v_rangeBegin v_rangeEnd Q := by
  have q_t : (bz true).toInt = 1 := rfl
  have q_f : (bz false).toInt = 0 := rfl
  have q_0 : (0 : Int32).toInt = 0 := rfl
  have q_1 : (1 : Int32).toInt = 1 := rfl
  unfold w_X10_isSaidAhead
  refine ok_X10_beforeOf (by omega) (by omega) (rp_mono b1 (by omega) (by omega)) (fun r2 f1 => ?_)
  have j_6 : ∀ n_6 : Nat, ∀ (l2_6 : Int32), 0 ≤ l2_6.toInt + 1 → l2_6.toInt ≤ r2.toInt → (l2_6.toInt + 2147483649).toNat < n_6 → w_X10_isSaidAhead_6 p1 v_count v_ranges v_sort v_end v_before v_parts v_value v_low v_high v_rangeBegin v_rangeEnd Q n_6 l2_6 := by
    intro n_6
    induction n_6 with
    | zero =>
      intro l2_6 f2 f3 hm_6
      exfalso; omega
    | succ n_6 ih_6 =>
      intro l2_6 f2 f3 hm_6
      unfold w_X10_isSaidAhead_6
      unfold w_X10_isSaidAhead_6B
      refine ok_X10_has (by omega) (by omega) (fun r8 f4 => ?_)
      refine ⟨fun c11 => ?_, fun c11 => ?_⟩
      · have f5 : r8.toInt = 0 := i_eq (a := r8.toInt) (b := 0) rfl rfl c11
        exact hq 0 (by omega)
      · have f6 : r8.toInt ≠ 0 := i_ne (a := r8.toInt) (b := 0) rfl rfl c11
        refine ok_X10_printAlike (by omega) (by omega) (by omega) (by omega) (rp_mono b0 (by omega) (by omega)) (fun r17 f7 => ?_)
        refine ⟨fun c20 => ?_, fun c20 => ?_⟩
        · have f8 : r17.toInt = 0 := i_eq (a := r17.toInt) (b := 0) rfl rfl c20
          refine ⟨i_in (by omega) (by omega), ?_⟩
          intro x30 ex30
          have f9 : x30.toInt + 1 ≤ l2_6.toInt ∧ 0 ≤ x30.toInt + 1 := by have h9 := rp_get (P := (fun k v => v < k ∧ -1 ≤ v)) (a := l2_6.toInt) b1 ex30 rfl (by omega) (by omega) (by omega); omega
          exact ih_6 x30 (by omega) (by omega) (by have h8_0 := i_rng l2_6; have h8_1 := i_rng x30; omega)
        · have f10 : r17.toInt ≠ 0 := i_ne (a := r17.toInt) (b := 0) rfl rfl c20
          exact hq 1 (by omega)
  exact ⟨(r2.toInt + 2147483649).toNat + 1, j_6   ((r2.toInt + 2147483649).toNat + 1) r2 (by omega) (by omega) (by omega)⟩
set_option maxHeartbeats 4000000 in
theorem ok_X10_copies {p1 : Int32} {v_count : Int32} {v_sort : Nat → Int32} {v_low : Nat → Int32} {v_high : Nat → Int32} {Q : Int32 → Prop} (a0 : 0 ≤ v_count.toInt) (a1 : v_count.toInt ≤ 256) (hq : ∀ (r : Int32), 1 ≤ r.toInt → Q r) : w_X10_copies p1 v_count v_sort v_low v_high Q := by
  have q_t : (bz true).toInt = 1 := rfl
  have q_f : (bz false).toInt = 0 := rfl
  have q_1 : (1 : Int32).toInt = 1 := rfl
  unfold w_X10_copies
  refine ok_X10_sortOf (by omega) (by omega) (fun r2 f1 => ?_)
  refine ⟨fun c7 => ?_, fun c7 => ?_⟩
  · have f2 : r2.toInt = 7 := i_eq (a := r2.toInt) (b := 7) rfl rfl c7
    refine ok_X10_highOf (by omega) (by omega) (fun r15 f3 => ?_)
    have j_37 : ∀ (s0_37 : Int32), w_X10_copies_37 Q s0_37 1 := by
      intro s0_37
      unfold w_X10_copies_37
      intro x37 ex37
      have f4 : ((x37.toInt = 1 ∧ s0_37.toInt ≤ 1) ∨ (x37.toInt = s0_37.toInt ∧ 1 ≤ s0_37.toInt)) := by have h9 := i_max (a := 1) (b := s0_37.toInt) ex37 rfl rfl; omega
      exact hq x37 (by omega)
    refine ⟨fun c19 => ?_, fun c19 => ?_⟩
    · have f5 : r15.toInt ≠ (-1) := i_ne (a := r15.toInt) (b := (-1)) rfl rfl c19
      refine ok_X10_highOf (by omega) (by omega) (fun r34 f6 => ?_)
      exact j_37 r34 
    · have f7 : r15.toInt = (-1) := i_eq (a := r15.toInt) (b := (-1)) rfl rfl c19
      refine ok_X10_lowOf (by omega) (by omega) (fun r24 f8 => ?_)
      intro x28 ex28
      exact j_37 x28 
  · have f9 : r2.toInt ≠ 7 := i_ne (a := r2.toInt) (b := 7) rfl rfl c7
    exact hq 1 (by omega)
set_option maxHeartbeats 4000000 in
theorem ok_X10_captureNamed {p1 : Int32} {v_count : Int32} {v_sort : Nat → Int32} {v_value : Nat → Int32} {v_low : Nat → Int32} {Q : Int32 → Prop} (a0 : 0 ≤ v_count.toInt) (a1 : v_count.toInt ≤ 256) (hq : ∀ (r : Int32), Q r) : w_X10_captureNamed p1 v_count v_sort v_value v_low Q := by
  have q_t : (bz true).toInt = 1 := rfl
  have q_f : (bz false).toInt = 0 := rfl
  have q_m1 : ((-1) : Int32).toInt = (-1) := rfl
  have q_0 : (0 : Int32).toInt = 0 := rfl
  unfold w_X10_captureNamed
  have j_2 : ∀ n_2 : Nat, ∀ (l2_2 : Int32), 0 ≤ l2_2.toInt → l2_2.toInt ≤ v_count.toInt → ((-1) * l2_2.toInt + 2147483648).toNat < n_2 → w_X10_captureNamed_2 p1 v_count v_sort v_value v_low Q n_2 l2_2 := by
    intro n_2
    induction n_2 with
    | zero =>
      intro l2_2 f1 f2 hm_2
      exfalso; omega
    | succ n_2 ih_2 =>
      intro l2_2 f1 f2 hm_2
      unfold w_X10_captureNamed_2
      unfold w_X10_captureNamed_2B
      refine ok_X10_has (by omega) (by omega) (fun r4 f3 => ?_)
      refine ⟨fun c7 => ?_, fun c7 => ?_⟩
      · have f4 : r4.toInt = 0 := i_eq (a := r4.toInt) (b := 0) rfl rfl c7
        exact hq (-1) 
      · have f5 : r4.toInt ≠ 0 := i_ne (a := r4.toInt) (b := 0) rfl rfl c7
        refine ⟨i_in (by omega) (by omega), ?_⟩
        intro x15 ex15
        have j_38 : w_X10_captureNamed_38 Q (w_X10_captureNamed_2 p1 v_count v_sort v_value v_low Q n_2) l2_2 := by
          unfold w_X10_captureNamed_38
          intro x38 ex38
          have f6 : x38.toInt = l2_2.toInt + 1 := i_add (a := l2_2.toInt) (b := 1) ex38 rfl rfl (by omega) (by omega)
          exact ih_2 x38 (by omega) (by omega) (by have h8_0 := i_rng l2_2; have h8_1 := i_rng x38; omega)
        refine ⟨fun c18 => ?_, fun c18 => ?_⟩
        · have f7 : x15.toInt ≠ 8 := i_ne (a := x15.toInt) (b := 8) rfl rfl c18
          exact j_38  
        · have f8 : x15.toInt = 8 := i_eq (a := x15.toInt) (b := 8) rfl rfl c18
          refine ⟨i_in (by omega) (by omega), ?_⟩
          intro x26 ex26
          refine ⟨fun c28 => ?_, fun c28 => ?_⟩
          · have f9 : x26.toInt ≠ p1.toInt := i_ne (a := x26.toInt) (b := p1.toInt) rfl rfl c28
            exact j_38  
          · have f10 : x26.toInt = p1.toInt := i_eq (a := x26.toInt) (b := p1.toInt) rfl rfl c28
            refine ⟨i_in (by omega) (by omega), ?_⟩
            intro x36 ex36
            exact hq x36 
  exact ⟨(2147483648 : Int).toNat + 1, j_2   ((2147483648 : Int).toNat + 1) 0 (by omega) (by omega) (by omega)⟩
set_option maxHeartbeats 4000000 in
theorem ok_X10_isTooLargeFor {p1 : Int32} {v_count : Int32} {v_size : Nat → Int32} {v_positions : Nat → Int32} {Q : Int32 → Prop} (a0 : 0 ≤ v_count.toInt) (a1 : v_count.toInt ≤ 256) (hq : ∀ (r : Int32), ((1 ≤ v_count.toInt) ∨ (r.toInt = 0)) → 0 ≤ r.toInt → r.toInt ≤ 1 → Q r) : w_X10_isTooLargeFor p1 v_count v_size v_positions Q := by
  have q_t : (bz true).toInt = 1 := rfl
  have q_f : (bz false).toInt = 0 := rfl
  have q_0 : (0 : Int32).toInt = 0 := rfl
  have q_1 : (1 : Int32).toInt = 1 := rfl
  unfold w_X10_isTooLargeFor
  have j_12 : ((p1.toInt = 0) ∨ (v_count.toInt ≤ 0)) → w_X10_isTooLargeFor_12 Q := by
    intro f1
    unfold w_X10_isTooLargeFor_12
    exact hq 0 (by omega) (by omega) (by omega)
  refine ⟨fun c1 => ?_, fun c1 => ?_⟩
  · have f2 : p1.toInt = 0 := i_eq (a := p1.toInt) (b := 0) rfl rfl c1
    exact j_12  (by omega)
  · have f3 : p1.toInt ≠ 0 := i_ne (a := p1.toInt) (b := 0) rfl rfl c1
    refine ⟨fun c9 => ?_, fun c9 => ?_⟩
    · have f4 : 1 ≤ v_count.toInt := i_le (a := 1) (b := v_count.toInt) rfl rfl c9
      intro x19 ex19
      have j_47 : ∀ (s0_47 : Int32), ((s0_47.toInt = 0) ∨ (s0_47.toInt = 1)) → w_X10_isTooLargeFor_47 Q s0_47 := by
        intro s0_47 f5
        unfold w_X10_isTooLargeFor_47
        refine ⟨i_01 (by omega) (by omega), ?_⟩
        exact hq s0_47 (by omega) (by omega) (by omega)
      have j_42 : w_X10_isTooLargeFor_42 Q := by
        unfold w_X10_isTooLargeFor_42
        exact j_47 1 (by omega)
      refine ⟨fun c23 => ?_, fun c23 => ?_⟩
      · have f6 : 200 < x19.toInt := i_lt (a := 200) (b := x19.toInt) rfl rfl c23
        exact j_42  
      · have f7 : x19.toInt ≤ 200 := i_nlt (a := 200) (b := x19.toInt) rfl rfl c23
        have j_46 : w_X10_isTooLargeFor_46 Q := by
          unfold w_X10_isTooLargeFor_46
          exact j_47 0 (by omega)
        refine ⟨fun c28 => ?_, fun c28 => ?_⟩
        · have f8 : p1.toInt ≠ 2 := i_ne (a := p1.toInt) (b := 2) rfl rfl c28
          exact j_46  
        · have f9 : p1.toInt = 2 := i_eq (a := p1.toInt) (b := 2) rfl rfl c28
          intro x36 ex36
          refine ⟨fun c39 => ?_, fun c39 => ?_⟩
          · have f10 : x36.toInt ≤ 60 := i_le (a := x36.toInt) (b := 60) rfl rfl c39
            exact j_46  
          · have f11 : 60 < x36.toInt := i_nle (a := x36.toInt) (b := 60) rfl rfl c39
            exact j_42  
    · have f12 : v_count.toInt < 1 := i_nle (a := 1) (b := v_count.toInt) rfl rfl c9
      exact j_12  (by omega)
set_option maxHeartbeats 4000000 in
theorem ok_X10_outermostEndless {p1 : Int32} {v_count : Int32} {v_sort : Nat → Int32} {v_holder : Nat → Int32} {v_end : Nat → Int32} {v_high : Nat → Int32} {v_marked : Nat → Bool} {Q : Int32 → Prop} (a0 : 0 ≤ v_count.toInt) (a1 : v_count.toInt ≤ 256) (b0 : rp (fun k v => k < v ∧ v ≤ 256) v_end 0 v_count.toInt) (b1 : rp (fun k v => v < k ∧ -1 ≤ v) v_holder 0 v_count.toInt) (hq : ∀ (r : Int32), 0 ≤ r.toInt + 1 → r.toInt ≤ v_count.toInt → r.toInt + 1 ≤ v_count.toInt → r.toInt ≤ v_count.toInt + 1 → Q r) : w_X10_outermostEndless p1 v_count v_sort v_holder v_end v_high v_marked Q := by
  have q_t : (bz true).toInt = 1 := rfl
  have q_f : (bz false).toInt = 0 := rfl
  have q_m1 : ((-1) : Int32).toInt = (-1) := rfl
  unfold w_X10_outermostEndless
  refine ok_X10_holderOf (by omega) (by omega) (rp_mono b1 (by omega) (by omega)) (fun r4 f1 => ?_)
  have j_8 : ∀ n_8 : Nat, ∀ (l2_8 : Int32) (l3_8 : Int32), 0 ≤ l2_8.toInt + 1 → l2_8.toInt + 1 ≤ v_count.toInt → 0 ≤ l3_8.toInt + 1 → l3_8.toInt ≤ r4.toInt → (l3_8.toInt + 2147483649).toNat < n_8 → w_X10_outermostEndless_8 v_count v_sort v_holder v_end v_high v_marked Q n_8 l2_8 l3_8 := by
    intro n_8
    induction n_8 with
    | zero =>
      intro l2_8 l3_8 f2 f3 f4 f5 hm_8
      exfalso; omega
    | succ n_8 ih_8 =>
      intro l2_8 l3_8 f2 f3 f4 f5 hm_8
      unfold w_X10_outermostEndless_8
      unfold w_X10_outermostEndless_8B
      refine ok_X10_has (by omega) (by omega) (fun r10 f6 => ?_)
      refine ⟨fun c13 => ?_, fun c13 => ?_⟩
      · have f7 : r10.toInt = 0 := i_eq (a := r10.toInt) (b := 0) rfl rfl c13
        exact hq l2_8 (by omega) (by omega) (by omega) (by omega)
      · have f8 : r10.toInt ≠ 0 := i_ne (a := r10.toInt) (b := 0) rfl rfl c13
        refine ok_X10_isEndless (by omega) (by omega) (fun r18 f9 f10 => ?_)
        have j_38 : ∀ (l2_38 : Int32), ((l2_38.toInt = l2_8.toInt ∧ r18.toInt = 0) ∨ (l2_38.toInt = l2_8.toInt) ∨ (l2_38.toInt = l3_8.toInt)) → w_X10_outermostEndless_38 v_holder Q (w_X10_outermostEndless_8 v_count v_sort v_holder v_end v_high v_marked Q n_8) l2_38 l3_8 := by
          intro l2_38 f11
          unfold w_X10_outermostEndless_38
          refine ⟨i_in (by omega) (by omega), ?_⟩
          intro x43 ex43
          have f12 : x43.toInt + 1 ≤ l3_8.toInt ∧ 0 ≤ x43.toInt + 1 := by have h9 := rp_get (P := (fun k v => v < k ∧ -1 ≤ v)) (a := l3_8.toInt) b1 ex43 rfl (by omega) (by omega) (by omega); omega
          exact ih_8 l2_38 x43 (by omega) (by omega) (by omega) (by omega) (by have h8_0 := i_rng l3_8; have h8_1 := i_rng x43; omega)
        refine ⟨fun c21 => ?_, fun c21 => ?_⟩
        · have f13 : r18.toInt = 0 := i_eq (a := r18.toInt) (b := 0) rfl rfl c21
          exact j_38 l2_8 (by omega)
        · have f14 : r18.toInt ≠ 0 := i_ne (a := r18.toInt) (b := 0) rfl rfl c21
          refine ok_X10_firstOf (by omega) (by omega) (rp_mono b0 (by omega) (by omega)) (fun r27 f15 f16 => ?_)
          refine ok_X10_isMarked (by omega) (by omega) (fun r30 f17 => ?_)
          refine ⟨fun c33 => ?_, fun c33 => ?_⟩
          · have f18 : r30.toInt = 0 := i_eq (a := r30.toInt) (b := 0) rfl rfl c33
            exact j_38 l2_8 (by omega)
          · have f19 : r30.toInt ≠ 0 := i_ne (a := r30.toInt) (b := 0) rfl rfl c33
            exact j_38 l3_8 (by omega)
  exact ⟨(r4.toInt + 2147483649).toNat + 1, j_8   ((r4.toInt + 2147483649).toNat + 1) (-1) r4 (by omega) (by omega) (by omega) (by omega) (by omega)⟩
set_option maxHeartbeats 4000000 in
theorem ok_X10_addRange {p1 : Int32} {p2 : Int32} {v_ranges : Int32} {v_rangeBegin : Nat → Int32} {v_rangeEnd : Nat → Int32} {Q : Int32 → (Nat → Int32) → (Nat → Int32) → Prop} (a0 : 0 ≤ v_ranges.toInt) (a1 : v_ranges.toInt ≤ 512) (hq : ∀ (ov_ranges : Int32) (ov_rangeBegin : Nat → Int32) (ov_rangeEnd : Nat → Int32), 0 ≤ ov_ranges.toInt → ov_ranges.toInt ≤ 512 → v_ranges.toInt ≤ ov_ranges.toInt → ((ov_ranges.toInt = v_ranges.toInt ∧ 512 ≤ v_ranges.toInt) ∨ (v_ranges.toInt ≤ 511 ∧ ov_ranges.toInt = v_ranges.toInt + 1)) → Q ov_ranges ov_rangeBegin ov_rangeEnd) : w_X10_addRange p1 p2 v_ranges v_rangeBegin v_rangeEnd Q := by
  have q_t : (bz true).toInt = 1 := rfl
  have q_f : (bz false).toInt = 0 := rfl
  unfold w_X10_addRange
  have j_54 : ∀ (v_ranges_54 : Int32) (v_rangeBegin_54 : Nat → Int32) (v_rangeEnd_54 : Nat → Int32), 0 ≤ v_ranges_54.toInt → v_ranges_54.toInt ≤ 512 → v_ranges.toInt ≤ v_ranges_54.toInt → ((v_ranges_54.toInt = v_ranges.toInt ∧ 512 ≤ v_ranges.toInt) ∨ (v_ranges.toInt ≤ 511 ∧ v_ranges_54.toInt = v_ranges.toInt + 1)) → w_X10_addRange_54 Q v_ranges_54 v_rangeBegin_54 v_rangeEnd_54 := by
    intro v_ranges_54 v_rangeBegin_54 v_rangeEnd_54 f1 f2 f3 f4
    unfold w_X10_addRange_54
    exact hq v_ranges_54 v_rangeBegin_54 v_rangeEnd_54 (by omega) (by omega) (by omega) (by omega)
  refine ⟨fun c9 => ?_, fun c9 => ?_⟩
  · have f5 : 512 ≤ v_ranges.toInt := i_le (a := 512) (b := v_ranges.toInt) rfl rfl c9
    exact j_54 v_ranges v_rangeBegin v_rangeEnd (by omega) (by omega) (by omega) (by omega)
  · have f6 : v_ranges.toInt < 512 := i_nle (a := 512) (b := v_ranges.toInt) rfl rfl c9
    refine ⟨fun c21 => ?_, fun c21 => ?_⟩
    · have f7 : 512 ≤ v_ranges.toInt := i_le (a := 512) (b := v_ranges.toInt) rfl rfl c21
      exfalso; omega
    · have f8 : v_ranges.toInt < 512 := i_nle (a := 512) (b := v_ranges.toInt) rfl rfl c21
      refine ⟨i_in (by omega) (by omega), ?_⟩
      intro g33 eg33
      refine ⟨i_in (by omega) (by omega), ?_⟩
      intro g43 eg43
      intro x50 ex50
      have f9 : x50.toInt = v_ranges.toInt + 1 := i_add (a := v_ranges.toInt) (b := 1) ex50 rfl rfl (by omega) (by omega)
      exact j_54 x50 g33 g43 (by omega) (by omega) (by omega) (by omega)
set_option maxHeartbeats 4000000 in
theorem ok_X10_isParallel {p1 : Int32} {v_count : Int32} {v_sort : Nat → Int32} {v_end : Nat → Int32} {v_value : Nat → Int32} {v_low : Nat → Int32} {v_high : Nat → Int32} {v_mayBeEmpty : Nat → Bool} {Q : Int32 → Prop} (a0 : 0 ≤ v_count.toInt) (a1 : v_count.toInt ≤ 256) (b0 : rp (fun k v => k < v ∧ v ≤ 256) v_end 0 v_count.toInt) (hq : ∀ (r : Int32), 0 ≤ r.toInt → r.toInt ≤ 1 → Q r) : w_X10_isParallel p1 v_count v_sort v_end v_value v_low v_high v_mayBeEmpty Q := by
  have q_t : (bz true).toInt = 1 := rfl
  have q_f : (bz false).toInt = 0 := rfl
  have q_0 : (0 : Int32).toInt = 0 := rfl
  have q_1 : (1 : Int32).toInt = 1 := rfl
  unfold w_X10_isParallel
  refine ok_X10_sortOf (by omega) (by omega) (fun r2 f1 => ?_)
  have j_48 : ((r2.toInt = 4) ∨ (r2.toInt = 9) ∨ (r2.toInt = 10)) → w_X10_isParallel_48 Q := by
    intro f2
    unfold w_X10_isParallel_48
    exact hq 0 (by omega) (by omega)
  have j_101 : r2.toInt ≠ 4 → r2.toInt ≠ 7 → r2.toInt ≠ 9 → r2.toInt ≠ 10 → w_X10_isParallel_101 Q := by
    intro f3 f4 f5 f6
    unfold w_X10_isParallel_101
    exact hq 1 (by omega) (by omega)
  refine ⟨fun c5_0 => ?_, fun c5_1 => ?_, fun c5_2 => ?_, fun c5_3 => ?_, ?_⟩
  · have f7 : r2.toInt = 4 := i_eq (a := r2.toInt) (b := 4) rfl rfl c5_0
    exact j_48  (by omega)
  · have f8 : r2.toInt = 7 := i_eq (a := r2.toInt) (b := 7) rfl rfl c5_1
    refine ok_X10_firstOf (by omega) (by omega) (rp_mono b0 (by omega) (by omega)) (fun r52 f9 f10 => ?_)
    refine ok_X10_valueOf (by omega) (by omega) (fun r58 f11 => ?_)
    have j_100 : ∀ (s0_100 : Int32), ((s0_100.toInt = 1) ∨ (s0_100.toInt = 0)) → w_X10_isParallel_100 Q s0_100 := by
      intro s0_100 f12
      unfold w_X10_isParallel_100
      refine ⟨i_01 (by omega) (by omega), ?_⟩
      exact hq s0_100 (by omega) (by omega)
    have j_99 : w_X10_isParallel_99 Q := by
      unfold w_X10_isParallel_99
      exact j_100 0 (by omega)
    refine ⟨fun c62 => ?_, fun c62 => ?_⟩
    · have f13 : r58.toInt = 2 := i_eq (a := r58.toInt) (b := 2) rfl rfl c62
      exact j_99  
    · have f14 : r58.toInt ≠ 2 := i_ne (a := r58.toInt) (b := 2) rfl rfl c62
      refine ok_X10_highOf (by omega) (by omega) (fun r67 f15 => ?_)
      refine ok_X10_lowOf (by omega) (by omega) (fun r72 f16 => ?_)
      have j_95 : ((r67.toInt ≤ r72.toInt) ∨ (r72.toInt + 1 ≤ r67.toInt)) → w_X10_isParallel_95 Q := by
        intro f17
        unfold w_X10_isParallel_95
        exact j_100 1 (by omega)
      refine ⟨fun c75 => ?_, fun c75 => ?_⟩
      · have f18 : r67.toInt ≤ r72.toInt := i_le (a := r67.toInt) (b := r72.toInt) rfl rfl c75
        exact j_95  (by omega)
      · have f19 : r72.toInt < r67.toInt := i_nle (a := r67.toInt) (b := r72.toInt) rfl rfl c75
        refine ok_X10_has (by omega) (by omega) (fun r80 f20 => ?_)
        refine ⟨fun c83 => ?_, fun c83 => ?_⟩
        · have f21 : r80.toInt = 0 := i_eq (a := r80.toInt) (b := 0) rfl rfl c83
          exact j_95  (by omega)
        · have f22 : r80.toInt ≠ 0 := i_ne (a := r80.toInt) (b := 0) rfl rfl c83
          refine ⟨i_in (by omega) (by omega), ?_⟩
          intro x91 ex91
          have f23 : (0 ≤ x91.toInt ∧ x91.toInt ≤ 1) := i_bz ex91
          refine ⟨fun c92 => ?_, fun c92 => ?_⟩
          · have f24 : x91.toInt ≠ 0 := i_ne (a := x91.toInt) (b := 0) rfl rfl c92
            exact j_99  
          · have f25 : x91.toInt = 0 := i_eq (a := x91.toInt) (b := 0) rfl rfl c92
            exact j_95  (by omega)
  · have f26 : r2.toInt = 9 := i_eq (a := r2.toInt) (b := 9) rfl rfl c5_2
    exact j_48  (by omega)
  · have f27 : r2.toInt = 10 := i_eq (a := r2.toInt) (b := 10) rfl rfl c5_3
    exact j_48  (by omega)
  · intro c5_0 c5_1 c5_2 c5_3
    have f28 : r2.toInt ≠ 4 := i_ne (a := r2.toInt) (b := 4) rfl rfl c5_0
    have f29 : r2.toInt ≠ 7 := i_ne (a := r2.toInt) (b := 7) rfl rfl c5_1
    have f30 : r2.toInt ≠ 9 := i_ne (a := r2.toInt) (b := 9) rfl rfl c5_2
    have f31 : r2.toInt ≠ 10 := i_ne (a := r2.toInt) (b := 10) rfl rfl c5_3
    exact j_101  (by omega) (by omega) (by omega) (by omega)
set_option maxHeartbeats 4000000 in
theorem ok_X10_isTakenBy {p1 : Int32} {v_count : Int32} {v_sort : Nat → Int32} {v_end : Nat → Int32} {v_value : Nat → Int32} {v_low : Nat → Int32} {v_high : Nat → Int32} {v_mayBeEmpty : Nat → Bool} {Q : Int32 → Prop} (a0 : 0 ≤ v_count.toInt) (a1 : v_count.toInt ≤ 256) (b0 : rp (fun k v => k < v ∧ v ≤ 256) v_end 0 v_count.toInt) (hq : ∀ (r : Int32), ((r.toInt = 0) ∨ (r.toInt = 1)) → Q r) : w_X10_isTakenBy p1 v_count v_sort v_end v_value v_low v_high v_mayBeEmpty Q := by
  have q_t : (bz true).toInt = 1 := rfl
  have q_f : (bz false).toInt = 0 := rfl
  have q_0 : (0 : Int32).toInt = 0 := rfl
  have q_1 : (1 : Int32).toInt = 1 := rfl
  unfold w_X10_isTakenBy
  have j_2 : ∀ n_2 : Nat, ∀ (l2_2 : Int32), 0 ≤ l2_2.toInt → l2_2.toInt ≤ v_count.toInt → ((-1) * l2_2.toInt + 2147483648).toNat < n_2 → w_X10_isTakenBy_2 p1 v_count v_sort v_end v_value v_low v_high v_mayBeEmpty Q n_2 l2_2 := by
    intro n_2
    induction n_2 with
    | zero =>
      intro l2_2 f1 f2 hm_2
      exfalso; omega
    | succ n_2 ih_2 =>
      intro l2_2 f1 f2 hm_2
      unfold w_X10_isTakenBy_2
      unfold w_X10_isTakenBy_2B
      have j_63 : w_X10_isTakenBy_63 Q := by
        unfold w_X10_isTakenBy_63
        exact hq 1 (by omega)
      refine ⟨fun c3 => ?_, fun c3 => ?_⟩
      · have f3 : p1.toInt = 0 := i_eq (a := p1.toInt) (b := 0) rfl rfl c3
        exact j_63  
      · have f4 : p1.toInt ≠ 0 := i_ne (a := p1.toInt) (b := 0) rfl rfl c3
        refine ok_X10_has (by omega) (by omega) (fun r8 f5 => ?_)
        refine ⟨fun c11 => ?_, fun c11 => ?_⟩
        · have f6 : r8.toInt = 0 := i_eq (a := r8.toInt) (b := 0) rfl rfl c11
          exact j_63  
        · have f7 : r8.toInt ≠ 0 := i_ne (a := r8.toInt) (b := 0) rfl rfl c11
          have j_50 : ∀ (s0_50 : Int32), ((s0_50.toInt = 1) ∨ (p1.toInt = 1 ∧ 0 ≤ s0_50.toInt ∧ s0_50.toInt ≤ 1) ∨ (s0_50.toInt = 0)) → w_X10_isTakenBy_50 Q (w_X10_isTakenBy_2 p1 v_count v_sort v_end v_value v_low v_high v_mayBeEmpty Q n_2) s0_50 l2_2 := by
            intro s0_50 f8
            unfold w_X10_isTakenBy_50
            refine ⟨fun c52 => ?_, fun c52 => ?_⟩
            · have f9 : s0_50.toInt ≠ 0 := i_ne (a := s0_50.toInt) (b := 0) rfl rfl c52
              intro x57 ex57
              have f10 : x57.toInt = l2_2.toInt + 1 := i_add (a := l2_2.toInt) (b := 1) ex57 rfl rfl (by omega) (by omega)
              exact ih_2 x57 (by omega) (by omega) (by have h8_0 := i_rng l2_2; have h8_1 := i_rng x57; omega)
            · have f11 : s0_50.toInt = 0 := i_eq (a := s0_50.toInt) (b := 0) rfl rfl c52
              exact hq 0 (by omega)
          refine ⟨fun c16 => ?_, fun c16 => ?_⟩
          · have f12 : p1.toInt ≠ 1 := i_ne (a := p1.toInt) (b := 1) rfl rfl c16
            refine ok_X10_isParallel (by omega) (by omega) (rp_mono b0 (by omega) (by omega)) (fun r29 f13 f14 => ?_)
            have j_49 : w_X10_isTakenBy_49 Q (w_X10_isTakenBy_2 p1 v_count v_sort v_end v_value v_low v_high v_mayBeEmpty Q n_2) l2_2 := by
              unfold w_X10_isTakenBy_49
              exact j_50 0 (by omega)
            refine ⟨fun c32 => ?_, fun c32 => ?_⟩
            · have f15 : r29.toInt = 0 := i_eq (a := r29.toInt) (b := 0) rfl rfl c32
              exact j_49  
            · have f16 : r29.toInt ≠ 0 := i_ne (a := r29.toInt) (b := 0) rfl rfl c32
              refine ⟨i_in (by omega) (by omega), ?_⟩
              intro x40 ex40
              refine ⟨fun c42 => ?_, fun c42 => ?_⟩
              · have f17 : x40.toInt = 3 := i_eq (a := x40.toInt) (b := 3) rfl rfl c42
                exact j_49  
              · have f18 : x40.toInt ≠ 3 := i_ne (a := x40.toInt) (b := 3) rfl rfl c42
                exact j_50 1 (by omega)
          · have f19 : p1.toInt = 1 := i_eq (a := p1.toInt) (b := 1) rfl rfl c16
            refine ok_X10_isParallel (by omega) (by omega) (rp_mono b0 (by omega) (by omega)) (fun r21 f20 f21 => ?_)
            exact j_50 r21 (by omega)
  exact ⟨(2147483648 : Int).toNat + 1, j_2   ((2147483648 : Int).toNat + 1) 0 (by omega) (by omega) (by omega)⟩
set_option maxHeartbeats 4000000 in
theorem ok_X10_deadRow {p1 : Int32} {v_count : Int32} {v_ranges : Int32} {v_sort : Nat → Int32} {v_holder : Nat → Int32} {v_end : Nat → Int32} {v_before : Nat → Int32} {v_parts : Nat → Int32} {v_value : Nat → Int32} {v_low : Nat → Int32} {v_high : Nat → Int32} {v_rangeBegin : Nat → Int32} {v_rangeEnd : Nat → Int32} {Q : Int32 → Prop} (a0 : 0 ≤ v_count.toInt) (a1 : v_count.toInt ≤ 256) (a2 : 0 ≤ v_ranges.toInt) (a3 : v_ranges.toInt ≤ 512) (b0 : rp (fun k v => k < v ∧ v ≤ 256) v_end 0 v_count.toInt) (b1 : rp (fun k v => v < k ∧ -1 ≤ v) v_holder 0 v_count.toInt) (b2 : rp (fun k v => v < k ∧ -1 ≤ v) v_before 0 v_count.toInt) (hq : ∀ (r : Int32), 0 ≤ r.toInt + 1 → r.toInt ≤ 255 → Q r) : w_X10_deadRow p1 v_count v_ranges v_sort v_holder v_end v_before v_parts v_value v_low v_high v_rangeBegin v_rangeEnd Q := by
  have q_t : (bz true).toInt = 1 := rfl
  have q_f : (bz false).toInt = 0 := rfl
  have q_m1 : ((-1) : Int32).toInt = (-1) := rfl
  have q_0 : (0 : Int32).toInt = 0 := rfl
  unfold w_X10_deadRow
  have j_4 : ∀ n_4 : Nat, ∀ (l2_4 : Int32) (l3_4 : Int32), 0 ≤ l2_4.toInt → l2_4.toInt ≤ l3_4.toInt → l3_4.toInt ≤ v_count.toInt → ((-1) * l3_4.toInt + 2147483648).toNat < n_4 → w_X10_deadRow_4 p1 v_count v_ranges v_sort v_holder v_end v_before v_parts v_value v_low v_high v_rangeBegin v_rangeEnd Q n_4 l2_4 l3_4 := by
    intro n_4
    induction n_4 with
    | zero =>
      intro l2_4 l3_4 f1 f2 f3 hm_4
      exfalso; omega
    | succ n_4 ih_4 =>
      intro l2_4 l3_4 f1 f2 f3 hm_4
      unfold w_X10_deadRow_4
      unfold w_X10_deadRow_4B
      refine ok_X10_has (by omega) (by omega) (fun r6 f4 => ?_)
      refine ⟨fun c9 => ?_, fun c9 => ?_⟩
      · have f5 : r6.toInt = 0 := i_eq (a := r6.toInt) (b := 0) rfl rfl c9
        exact hq (-1) (by omega) (by omega)
      · have f6 : r6.toInt ≠ 0 := i_ne (a := r6.toInt) (b := 0) rfl rfl c9
        refine ⟨i_in (by omega) (by omega), ?_⟩
        intro x18 ex18
        have f7 : x18.toInt + 1 ≤ l3_4.toInt ∧ 0 ≤ x18.toInt + 1 := by have h9 := rp_get (P := (fun k v => v < k ∧ -1 ≤ v)) (a := l3_4.toInt) b1 ex18 rfl (by omega) (by omega) (by omega); omega
        refine ok_X10_sortOf (by omega) (by omega) (fun r19 f8 => ?_)
        have j_58 : ∀ (l2_58 : Int32), l2_4.toInt ≤ l2_58.toInt → l2_58.toInt ≤ l2_4.toInt + 1 → ((l2_58.toInt = l2_4.toInt) ∨ (r19.toInt = 6 ∧ x18.toInt + 1 ≤ l3_4.toInt ∧ 0 ≤ x18.toInt + 1 ∧ l2_58.toInt = l2_4.toInt + 1) ∨ (l2_58.toInt = l2_4.toInt ∧ r19.toInt = 6 ∧ x18.toInt + 1 ≤ l3_4.toInt ∧ 0 ≤ x18.toInt + 1)) → w_X10_deadRow_58 Q (w_X10_deadRow_4 p1 v_count v_ranges v_sort v_holder v_end v_before v_parts v_value v_low v_high v_rangeBegin v_rangeEnd Q n_4) l2_58 l3_4 := by
          intro l2_58 f9 f10 f11
          unfold w_X10_deadRow_58
          intro x58 ex58
          have f12 : x58.toInt = l3_4.toInt + 1 := i_add (a := l3_4.toInt) (b := 1) ex58 rfl rfl (by omega) (by omega)
          exact ih_4 l2_58 x58 (by omega) (by omega) (by omega) (by have h8_0 := i_rng l3_4; have h8_1 := i_rng x58; omega)
        refine ⟨fun c24 => ?_, fun c24 => ?_⟩
        · have f13 : r19.toInt ≠ 6 := i_ne (a := r19.toInt) (b := 6) rfl rfl c24
          exact j_58 l2_4 (by omega) (by omega) (by omega)
        · have f14 : r19.toInt = 6 := i_eq (a := r19.toInt) (b := 6) rfl rfl c24
          refine ⟨i_in (by omega) (by omega), ?_⟩
          intro x32 ex32
          have f15 : x32.toInt = x18.toInt := congrArg Int32.toInt (ex32.trans ex18.symm)
          have f16 : x32.toInt + 1 ≤ l3_4.toInt ∧ 0 ≤ x32.toInt + 1 := by have h9 := rp_get (P := (fun k v => v < k ∧ -1 ≤ v)) (a := l3_4.toInt) b1 ex32 rfl (by omega) (by omega) (by omega); omega
          refine ⟨fun c34 => ?_, fun c34 => ?_⟩
          · have f17 : x32.toInt = (-1) := i_eq (a := x32.toInt) (b := (-1)) rfl rfl c34
            exfalso; omega
          · have f18 : x32.toInt ≠ (-1) := i_ne (a := x32.toInt) (b := (-1)) rfl rfl c34
            refine ok_X10_isSaidAhead (by omega) (by omega) (by omega) (by omega) (rp_mono b0 (by omega) (by omega)) (rp_mono b2 (by omega) (by omega)) (fun r39 f19 => ?_)
            refine ⟨fun c42 => ?_, fun c42 => ?_⟩
            · have f20 : r39.toInt ≠ 0 := i_ne (a := r39.toInt) (b := 0) rfl rfl c42
              refine ⟨fun c50 => ?_, fun c50 => ?_⟩
              · have f21 : l2_4.toInt ≠ p1.toInt := i_ne (a := l2_4.toInt) (b := p1.toInt) rfl rfl c50
                intro x55 ex55
                have f22 : x55.toInt = l2_4.toInt + 1 := i_add (a := l2_4.toInt) (b := 1) ex55 rfl rfl (by omega) (by omega)
                exact j_58 x55 (by omega) (by omega) (by omega)
              · have f23 : l2_4.toInt = p1.toInt := i_eq (a := l2_4.toInt) (b := p1.toInt) rfl rfl c50
                exact hq l3_4 (by omega) (by omega)
            · have f24 : r39.toInt = 0 := i_eq (a := r39.toInt) (b := 0) rfl rfl c42
              exact j_58 l2_4 (by omega) (by omega) (by omega)
  exact ⟨(2147483648 : Int).toNat + 1, j_4   ((2147483648 : Int).toNat + 1) 0 0 (by omega) (by omega) (by omega) (by omega)⟩
set_option maxHeartbeats 4000000 in
theorem ok_X10_tellOfAll {p1 : Int32} {p2 : Int32} {v_count : Int32} {v_sort : Nat → Int32} {v_holder : Nat → Int32} {v_parts : Nat → Int32} {v_high : Nat → Int32} {v_size : Nat → Int32} {v_positions : Nat → Int32} {v_mayBeEmpty : Nat → Bool} {v_withinCase : Nat → Bool} {Q : Int32 → Prop} (a0 : 0 ≤ v_count.toInt) (a1 : v_count.toInt ≤ 256) (b0 : rp (fun k v => v < k ∧ -1 ≤ v) v_holder 0 v_count.toInt) (hq : ∀ (r : Int32), Q r) : w_X10_tellOfAll p1 p2 v_count v_sort v_holder v_parts v_high v_size v_positions v_mayBeEmpty v_withinCase Q := by
  have q_t : (bz true).toInt = 1 := rfl
  have q_f : (bz false).toInt = 0 := rfl
  have q_m4 : ((-4) : Int32).toInt = (-4) := rfl
  have q_0 : (0 : Int32).toInt = 0 := rfl
  have q_1 : (1 : Int32).toInt = 1 := rfl
  unfold w_X10_tellOfAll
  refine ok_X10_has (by omega) (by omega) (fun r2 f1 => ?_)
  refine ⟨fun c5 => ?_, fun c5 => ?_⟩
  · have f2 : r2.toInt ≠ 0 := i_ne (a := r2.toInt) (b := 0) rfl rfl c5
    refine ⟨fun c12_0 => ?_, fun c12_1 => ?_, fun c12_2 => ?_, fun c12_3 => ?_, fun c12_4 => ?_, fun c12_5 => ?_, ?_⟩
    · have f3 : p2.toInt = 0 := i_eq (a := p2.toInt) (b := 0) rfl rfl c12_0
      refine ⟨i_in (by omega) (by omega), ?_⟩
      intro x57 ex57
      exact hq x57 
    · have f4 : p2.toInt = 1 := i_eq (a := p2.toInt) (b := 1) rfl rfl c12_1
      refine ok_X10_partsOf (by omega) (by omega) (fun r61 f5 => ?_)
      exact hq r61 
    · have f6 : p2.toInt = 2 := i_eq (a := p2.toInt) (b := 2) rfl rfl c12_2
      refine ⟨i_in (by omega) (by omega), ?_⟩
      intro x70 ex70
      have f7 : x70.toInt + 1 ≤ p1.toInt ∧ 0 ≤ x70.toInt + 1 := by have h9 := rp_get (P := (fun k v => v < k ∧ -1 ≤ v)) (a := p1.toInt) b0 ex70 rfl (by omega) (by omega) (by omega); omega
      exact hq x70 
    · have f8 : p2.toInt = 3 := i_eq (a := p2.toInt) (b := 3) rfl rfl c12_3
      refine ⟨i_in (by omega) (by omega), ?_⟩
      intro x77 ex77
      exact hq x77 
    · have f9 : p2.toInt = 4 := i_eq (a := p2.toInt) (b := 4) rfl rfl c12_4
      refine ⟨i_in (by omega) (by omega), ?_⟩
      intro x84 ex84
      exact hq x84 
    · have f10 : p2.toInt = 5 := i_eq (a := p2.toInt) (b := 5) rfl rfl c12_5
      refine ⟨i_in (by omega) (by omega), ?_⟩
      intro x91 ex91
      have f11 : (0 ≤ x91.toInt ∧ x91.toInt ≤ 1) := i_bz ex91
      have j_100 : ∀ (s0_100 : Int32), ((s0_100.toInt = 0 ∧ x91.toInt = 0) ∨ (s0_100.toInt = 1)) → w_X10_tellOfAll_100 Q s0_100 := by
        intro s0_100 f12
        unfold w_X10_tellOfAll_100
        exact hq s0_100 
      refine ⟨fun c92 => ?_, fun c92 => ?_⟩
      · have f13 : x91.toInt = 0 := i_eq (a := x91.toInt) (b := 0) rfl rfl c92
        exact j_100 0 (by omega)
      · have f14 : x91.toInt ≠ 0 := i_ne (a := x91.toInt) (b := 0) rfl rfl c92
        exact j_100 1 (by omega)
    · intro c12_0 c12_1 c12_2 c12_3 c12_4 c12_5
      have f15 : p2.toInt ≠ 0 := i_ne (a := p2.toInt) (b := 0) rfl rfl c12_0
      have f16 : p2.toInt ≠ 1 := i_ne (a := p2.toInt) (b := 1) rfl rfl c12_1
      have f17 : p2.toInt ≠ 2 := i_ne (a := p2.toInt) (b := 2) rfl rfl c12_2
      have f18 : p2.toInt ≠ 3 := i_ne (a := p2.toInt) (b := 3) rfl rfl c12_3
      have f19 : p2.toInt ≠ 4 := i_ne (a := p2.toInt) (b := 4) rfl rfl c12_4
      have f20 : p2.toInt ≠ 5 := i_ne (a := p2.toInt) (b := 5) rfl rfl c12_5
      refine ⟨i_in (by omega) (by omega), ?_⟩
      intro x106 ex106
      have f21 : (0 ≤ x106.toInt ∧ x106.toInt ≤ 1) := i_bz ex106
      have j_115 : ∀ (s0_115 : Int32), ((s0_115.toInt = 0 ∧ x106.toInt = 0) ∨ (s0_115.toInt = 1)) → w_X10_tellOfAll_115 Q s0_115 := by
        intro s0_115 f22
        unfold w_X10_tellOfAll_115
        exact hq s0_115 
      refine ⟨fun c107 => ?_, fun c107 => ?_⟩
      · have f23 : x106.toInt = 0 := i_eq (a := x106.toInt) (b := 0) rfl rfl c107
        exact j_115 0 (by omega)
      · have f24 : x106.toInt ≠ 0 := i_ne (a := x106.toInt) (b := 0) rfl rfl c107
        exact j_115 1 (by omega)
  · have f25 : r2.toInt = 0 := i_eq (a := r2.toInt) (b := 0) rfl rfl c5
    exact hq (-4) 
set_option maxHeartbeats 4000000 in
theorem ok_X0_leastOf {p1 : Int32} {v_count : Int32} {v_begins : Nat → Int32} {Q : Int32 → Prop} (a0 : 0 ≤ v_count.toInt) (a1 : v_count.toInt ≤ 256) (hq : ∀ (r : Int32), ((0 ≤ p1.toInt ∧ p1.toInt + 1 ≤ v_count.toInt) ∨ (r.toInt = 0)) → Q r) : w_X0_leastOf p1 v_count v_begins Q := by
  have q_t : (bz true).toInt = 1 := rfl
  have q_f : (bz false).toInt = 0 := rfl
  have q_0 : (0 : Int32).toInt = 0 := rfl
  unfold w_X0_leastOf
  have j_22 : ∀ (s0_22 : Int32), ((0 ≤ p1.toInt ∧ p1.toInt + 1 ≤ v_count.toInt) ∨ (s0_22.toInt = 0)) → w_X0_leastOf_22 Q s0_22 := by
    intro s0_22 f1
    unfold w_X0_leastOf_22
    exact hq s0_22 (by omega)
  have j_21 : ((p1.toInt + 1 ≤ 0) ∨ (0 ≤ p1.toInt ∧ v_count.toInt ≤ p1.toInt)) → w_X0_leastOf_21 Q := by
    intro f2
    unfold w_X0_leastOf_21
    exact j_22 0 (by omega)
  refine ⟨fun c1 => ?_, fun c1 => ?_⟩
  · have f3 : p1.toInt < 0 := i_lt (a := p1.toInt) (b := 0) rfl rfl c1
    exact j_21  (by omega)
  · have f4 : 0 ≤ p1.toInt := i_nlt (a := p1.toInt) (b := 0) rfl rfl c1
    refine ⟨fun c9 => ?_, fun c9 => ?_⟩
    · have f5 : v_count.toInt ≤ p1.toInt := i_le (a := v_count.toInt) (b := p1.toInt) rfl rfl c9
      exact j_21  (by omega)
    · have f6 : p1.toInt < v_count.toInt := i_nle (a := v_count.toInt) (b := p1.toInt) rfl rfl c9
      refine ⟨i_in (by omega) (by omega), ?_⟩
      intro x17 ex17
      exact j_22 x17 (by omega)
set_option maxHeartbeats 4000000 in
theorem ok_X10_firstRisky {a1_count : Int32} {a1_begins : Nat → Int32} {v_count : Int32} {v_ranges : Int32} {v_sort : Nat → Int32} {v_holder : Nat → Int32} {v_end : Nat → Int32} {v_value : Nat → Int32} {v_low : Nat → Int32} {v_high : Nat → Int32} {v_mayBeEmpty : Nat → Bool} {v_withinCase : Nat → Bool} {v_marked : Nat → Bool} {v_rangeBegin : Nat → Int32} {v_rangeEnd : Nat → Int32} {Q : Int32 → (Nat → Bool) → Prop} (a0 : 0 ≤ a1_count.toInt) (a1 : a1_count.toInt ≤ 256) (a2 : 0 ≤ v_count.toInt) (a3 : v_count.toInt ≤ 256) (a4 : 0 ≤ v_ranges.toInt) (a5 : v_ranges.toInt ≤ 512) (b0 : rp (fun k v => k < v ∧ v ≤ 256) v_end 0 v_count.toInt) (b1 : rp (fun k v => v < k ∧ -1 ≤ v) v_holder 0 v_count.toInt) (hq : ∀ (r : Int32) (ov_marked : Nat → Bool), 0 ≤ r.toInt + 1 → r.toInt ≤ v_count.toInt → r.toInt + 1 ≤ v_count.toInt → r.toInt ≤ v_count.toInt + 1 → Q r ov_marked) : w_X10_firstRisky a1_count a1_begins v_count v_ranges v_sort v_holder v_end v_value v_low v_high v_mayBeEmpty v_withinCase v_marked v_rangeBegin v_rangeEnd Q := by
  have q_t : (bz true).toInt = 1 := rfl
  have q_f : (bz false).toInt = 0 := rfl
  have q_m1 : ((-1) : Int32).toInt = (-1) := rfl
  have q_0 : (0 : Int32).toInt = 0 := rfl
  unfold w_X10_firstRisky
  have j_4 : ∀ n_4 : Nat, ∀ (l2_4 : Int32) (l3_4 : Int32) (v_marked_4 : Nat → Bool), 0 ≤ l2_4.toInt + 1 → l2_4.toInt + 1 ≤ v_count.toInt → 0 ≤ l3_4.toInt → l3_4.toInt ≤ a1_count.toInt → ((-1) * l3_4.toInt + 2147483648).toNat < n_4 → w_X10_firstRisky_4 a1_count a1_begins v_count v_ranges v_sort v_holder v_end v_value v_low v_high v_mayBeEmpty v_withinCase v_rangeBegin v_rangeEnd Q n_4 l2_4 l3_4 v_marked_4 := by
    intro n_4
    induction n_4 with
    | zero =>
      intro l2_4 l3_4 v_marked_4 f1 f2 f3 f4 hm_4
      exfalso; omega
    | succ n_4 ih_4 =>
      intro l2_4 l3_4 v_marked_4 f1 f2 f3 f4 hm_4
      unfold w_X10_firstRisky_4
      unfold w_X10_firstRisky_4B
      refine ⟨fun c9 => ?_, fun c9 => ?_⟩
      · have f5 : a1_count.toInt ≤ l3_4.toInt := i_le (a := a1_count.toInt) (b := l3_4.toInt) rfl rfl c9
        exact hq l2_4 v_marked_4 (by omega) (by omega) (by omega) (by omega)
      · have f6 : l3_4.toInt < a1_count.toInt := i_nle (a := a1_count.toInt) (b := l3_4.toInt) rfl rfl c9
        refine ok_X0_leastOf (by omega) (by omega) (fun r15 f7 => ?_)
        refine ok_X10_markBeginning (by omega) (by omega) (by omega) (by omega) (rp_mono b0 (by omega) (by omega)) (rp_mono b1 (by omega) (by omega)) (fun r18_0 => ?_)
        have j_24 : ∀ n_24 : Nat, ∀ (l2_24 : Int32) (l4_24 : Int32), 0 ≤ l2_24.toInt + 1 → l2_24.toInt + 1 ≤ v_count.toInt → 0 ≤ l4_24.toInt → l4_24.toInt ≤ v_count.toInt → ((-1) * l4_24.toInt + 2147483648).toNat < n_24 → w_X10_firstRisky_24 v_count v_sort v_holder v_end v_high Q (w_X10_firstRisky_4 a1_count a1_begins v_count v_ranges v_sort v_holder v_end v_value v_low v_high v_mayBeEmpty v_withinCase v_rangeBegin v_rangeEnd Q n_4) l3_4 r18_0 n_24 l2_24 l4_24 := by
          intro n_24
          induction n_24 with
          | zero =>
            intro l2_24 l4_24 f8 f9 f10 f11 hm_24
            exfalso; omega
          | succ n_24 ih_24 =>
            intro l2_24 l4_24 f8 f9 f10 f11 hm_24
            unfold w_X10_firstRisky_24
            unfold w_X10_firstRisky_24B
            refine ok_X10_has (by omega) (by omega) (fun r27 f12 => ?_)
            refine ⟨fun c30 => ?_, fun c30 => ?_⟩
            · have f13 : r27.toInt = 0 := i_eq (a := r27.toInt) (b := 0) rfl rfl c30
              intro x93 ex93
              have f14 : x93.toInt = l3_4.toInt + 1 := i_add (a := l3_4.toInt) (b := 1) ex93 rfl rfl (by omega) (by omega)
              exact ih_4 l2_24 x93 r18_0 (by omega) (by omega) (by omega) (by omega) (by have h8_0 := i_rng l3_4; have h8_1 := i_rng x93; omega)
            · have f15 : r27.toInt ≠ 0 := i_ne (a := r27.toInt) (b := 0) rfl rfl c30
              refine ok_X10_isEndless (by omega) (by omega) (fun r36 f16 f17 => ?_)
              have j_65 : ∀ (s0_65 : Int32), ((0 ≤ s0_65.toInt + 1 ∧ s0_65.toInt ≤ v_count.toInt ∧ s0_65.toInt + 1 ≤ v_count.toInt ∧ s0_65.toInt ≤ v_count.toInt + 1) ∨ (s0_65.toInt + 1 = 0)) → w_X10_firstRisky_65 Q (w_X10_firstRisky_4 a1_count a1_begins v_count v_ranges v_sort v_holder v_end v_value v_low v_high v_mayBeEmpty v_withinCase v_rangeBegin v_rangeEnd Q n_4) (w_X10_firstRisky_24 v_count v_sort v_holder v_end v_high Q (w_X10_firstRisky_4 a1_count a1_begins v_count v_ranges v_sort v_holder v_end v_value v_low v_high v_mayBeEmpty v_withinCase v_rangeBegin v_rangeEnd Q n_4) l3_4 r18_0 n_24) s0_65 l2_24 l4_24 := by
                intro s0_65 f18
                unfold w_X10_firstRisky_65
                have j_87 : ∀ (l2_87 : Int32), ((l2_87.toInt = l2_24.toInt ∧ s0_65.toInt + 1 = 0) ∨ (l2_87.toInt = l2_24.toInt ∧ l2_24.toInt ≤ s0_65.toInt) ∨ (l2_87.toInt = s0_65.toInt)) → w_X10_firstRisky_87 Q (w_X10_firstRisky_4 a1_count a1_begins v_count v_ranges v_sort v_holder v_end v_value v_low v_high v_mayBeEmpty v_withinCase v_rangeBegin v_rangeEnd Q n_4) (w_X10_firstRisky_24 v_count v_sort v_holder v_end v_high Q (w_X10_firstRisky_4 a1_count a1_begins v_count v_ranges v_sort v_holder v_end v_value v_low v_high v_mayBeEmpty v_withinCase v_rangeBegin v_rangeEnd Q n_4) l3_4 r18_0 n_24) l2_87 l4_24 := by
                  intro l2_87 f19
                  unfold w_X10_firstRisky_87
                  intro x87 ex87
                  have f20 : x87.toInt = l4_24.toInt + 1 := i_add (a := l4_24.toInt) (b := 1) ex87 rfl rfl (by omega) (by omega)
                  exact ih_24 l2_87 x87 (by omega) (by omega) (by omega) (by omega) (by have h8_0 := i_rng l4_24; have h8_1 := i_rng x87; omega)
                refine ⟨fun c70 => ?_, fun c70 => ?_⟩
                · have f21 : s0_65.toInt = (-1) := i_eq (a := s0_65.toInt) (b := (-1)) rfl rfl c70
                  exact j_87 l2_24 (by omega)
                · have f22 : s0_65.toInt ≠ (-1) := i_ne (a := s0_65.toInt) (b := (-1)) rfl rfl c70
                  have j_84 : ((l2_24.toInt + 1 = 0) ∨ (s0_65.toInt + 1 ≤ l2_24.toInt)) → w_X10_firstRisky_84 Q (w_X10_firstRisky_4 a1_count a1_begins v_count v_ranges v_sort v_holder v_end v_value v_low v_high v_mayBeEmpty v_withinCase v_rangeBegin v_rangeEnd Q n_4) (w_X10_firstRisky_24 v_count v_sort v_holder v_end v_high Q (w_X10_firstRisky_4 a1_count a1_begins v_count v_ranges v_sort v_holder v_end v_value v_low v_high v_mayBeEmpty v_withinCase v_rangeBegin v_rangeEnd Q n_4) l3_4 r18_0 n_24) l4_24 s0_65 := by
                    intro f23
                    unfold w_X10_firstRisky_84
                    exact j_87 s0_65 (by omega)
                  refine ⟨fun c75 => ?_, fun c75 => ?_⟩
                  · have f24 : l2_24.toInt = (-1) := i_eq (a := l2_24.toInt) (b := (-1)) rfl rfl c75
                    exact j_84  (by omega)
                  · have f25 : l2_24.toInt ≠ (-1) := i_ne (a := l2_24.toInt) (b := (-1)) rfl rfl c75
                    refine ⟨fun c81 => ?_, fun c81 => ?_⟩
                    · have f26 : l2_24.toInt ≤ s0_65.toInt := i_le (a := l2_24.toInt) (b := s0_65.toInt) rfl rfl c81
                      exact j_87 l2_24 (by omega)
                    · have f27 : s0_65.toInt < l2_24.toInt := i_nle (a := l2_24.toInt) (b := s0_65.toInt) rfl rfl c81
                      exact j_84  (by omega)
              have j_64 : w_X10_firstRisky_64 Q (w_X10_firstRisky_4 a1_count a1_begins v_count v_ranges v_sort v_holder v_end v_value v_low v_high v_mayBeEmpty v_withinCase v_rangeBegin v_rangeEnd Q n_4) (w_X10_firstRisky_24 v_count v_sort v_holder v_end v_high Q (w_X10_firstRisky_4 a1_count a1_begins v_count v_ranges v_sort v_holder v_end v_value v_low v_high v_mayBeEmpty v_withinCase v_rangeBegin v_rangeEnd Q n_4) l3_4 r18_0 n_24) l2_24 l4_24 := by
                unfold w_X10_firstRisky_64
                exact j_65 (-1) (by omega)
              refine ⟨fun c39 => ?_, fun c39 => ?_⟩
              · have f28 : r36.toInt = 0 := i_eq (a := r36.toInt) (b := 0) rfl rfl c39
                exact j_64  
              · have f29 : r36.toInt ≠ 0 := i_ne (a := r36.toInt) (b := 0) rfl rfl c39
                refine ok_X10_firstOf (by omega) (by omega) (rp_mono b0 (by omega) (by omega)) (fun r46 f30 f31 => ?_)
                refine ok_X10_isMarked (by omega) (by omega) (fun r49 f32 => ?_)
                refine ⟨fun c52 => ?_, fun c52 => ?_⟩
                · have f33 : r49.toInt = 0 := i_eq (a := r49.toInt) (b := 0) rfl rfl c52
                  exact j_64  
                · have f34 : r49.toInt ≠ 0 := i_ne (a := r49.toInt) (b := 0) rfl rfl c52
                  refine ok_X10_outermostEndless (by omega) (by omega) (rp_mono b0 (by omega) (by omega)) (rp_mono b1 (by omega) (by omega)) (fun r58 f35 f36 f37 f38 => ?_)
                  exact j_65 r58 (by omega)
        exact ⟨(2147483648 : Int).toNat + 1, j_24   ((2147483648 : Int).toNat + 1) l2_4 0 (by omega) (by omega) (by omega) (by omega) (by omega)⟩
  exact ⟨(2147483648 : Int).toNat + 1, j_4   ((2147483648 : Int).toNat + 1) (-1) 0 v_marked (by omega) (by omega) (by omega) (by omega) (by omega)⟩
set_option maxHeartbeats 4000000 in
theorem ok_X10_measureNode {p1 : Int32} {v_count : Int32} {v_sort : Nat → Int32} {v_holder : Nat → Int32} {v_end : Nat → Int32} {v_low : Nat → Int32} {v_high : Nat → Int32} {v_size : Nat → Int32} {v_positions : Nat → Int32} {v_mayBeEmpty : Nat → Bool} {Q : (Nat → Int32) → (Nat → Int32) → (Nat → Bool) → Prop} (a0 : 0 ≤ v_count.toInt) (a1 : v_count.toInt ≤ 256) (b0 : rp (fun k v => k < v ∧ v ≤ 256) v_end 0 v_count.toInt) (b1 : rp (fun k v => v < k ∧ -1 ≤ v) v_holder 0 v_count.toInt) (hq : ∀ (ov_size : Nat → Int32) (ov_positions : Nat → Int32) (ov_mayBeEmpty : Nat → Bool), Q ov_size ov_positions ov_mayBeEmpty) : w_X10_measureNode p1 v_count v_sort v_holder v_end v_low v_high v_size v_positions v_mayBeEmpty Q := by
  have q_t : (bz true).toInt = 1 := rfl
  have q_f : (bz false).toInt = 0 := rfl
  have q_0 : (0 : Int32).toInt = 0 := rfl
  have q_1 : (1 : Int32).toInt = 1 := rfl
  unfold w_X10_measureNode
  refine ok_X10_has (by omega) (by omega) (fun r2 f1 => ?_)
  refine ⟨fun c5 => ?_, fun c5 => ?_⟩
  · have f2 : r2.toInt ≠ 0 := i_ne (a := r2.toInt) (b := 0) rfl rfl c5
    refine ok_X10_firstOf (by omega) (by omega) (rp_mono b0 (by omega) (by omega)) (fun r21 f3 f4 => ?_)
    have j_26 : ∀ n_26 : Nat, ∀ (l2_26 : Int32) (l3_26 : Int32) (l4_26 : Int32) (l5_26 : Int32) (l6_26 : Int32), 0 ≤ l4_26.toInt → l4_26.toInt ≤ 1 → 0 ≤ l5_26.toInt → l5_26.toInt ≤ 1 → 0 ≤ l6_26.toInt + 1 → l6_26.toInt ≤ 255 → (1 ≤ n_26 ∧ (l6_26.toInt + 1 ≤ 0 ∨ (-1) * l6_26.toInt + 2147483648 ≤ (n_26 : Int))) → w_X10_measureNode_26 p1 v_count v_sort v_holder v_end v_low v_high Q v_size v_positions v_mayBeEmpty n_26 l2_26 l3_26 l4_26 l5_26 l6_26 := by
      intro n_26
      induction n_26 with
      | zero =>
        intro l2_26 l3_26 l4_26 l5_26 l6_26 f5 f6 f7 f8 f9 f10 hm_26
        exfalso; omega
      | succ n_26 ih_26 =>
        intro l2_26 l3_26 l4_26 l5_26 l6_26 f5 f6 f7 f8 f9 f10 hm_26
        unfold w_X10_measureNode_26
        unfold w_X10_measureNode_26B
        refine ok_X10_has (by omega) (by omega) (fun r29 f11 => ?_)
        refine ⟨fun c32 => ?_, fun c32 => ?_⟩
        · have f12 : r29.toInt = 0 := i_eq (a := r29.toInt) (b := 0) rfl rfl c32
          refine ok_X10_copies (by omega) (by omega) (fun r92 f13 => ?_)
          intro x109 ex109
          intro x110 ex110
          intro x111 ex111
          have f14 : ((x111.toInt = 20000 ∧ 20000 ≤ x110.toInt) ∨ (x111.toInt = x110.toInt ∧ x110.toInt ≤ 20000)) := by have h9 := i_min (a := x110.toInt) (b := 20000) ex111 rfl rfl; omega
          refine ⟨i_in (by omega) (by omega), ?_⟩
          intro g114 eg114
          refine ok_X10_takesOneSign (by omega) (by omega) (fun r122 f15 f16 => ?_)
          have j_142 : ∀ (s0_142 : Int32), ((r122.toInt = 0) ∨ (s0_142.toInt = 1)) → s0_142.toInt ≤ 20000 → w_X10_measureNode_142 p1 v_count v_sort v_low Q s0_142 p1 l4_26 l5_26 g114 v_positions v_mayBeEmpty := by
            intro s0_142 f17 f18
            unfold w_X10_measureNode_142
            refine ⟨i_in (by omega) (by omega), ?_⟩
            intro g142 eg142
            refine ok_X10_maybeEmpty (by omega) (by omega) (by omega) (by omega) (by omega) (by omega) (fun r154 f19 f20 => ?_)
            refine ⟨i_in (by omega) (by omega), ?_⟩
            intro g157 eg157
            exact hq g114 g142 g157 
          refine ⟨fun c125 => ?_, fun c125 => ?_⟩
          · have f21 : r122.toInt = 0 := i_eq (a := r122.toInt) (b := 0) rfl rfl c125
            intro x138 ex138
            intro x139 ex139
            have f22 : ((x139.toInt = 20000 ∧ 20000 ≤ x138.toInt) ∨ (x139.toInt = x138.toInt ∧ x138.toInt ≤ 20000)) := by have h9 := i_min (a := x138.toInt) (b := 20000) ex139 rfl rfl; omega
            exact j_142 x139 (by omega) (by omega)
          · have f23 : r122.toInt ≠ 0 := i_ne (a := r122.toInt) (b := 0) rfl rfl c125
            exact j_142 1 (by omega) (by omega)
        · have f24 : r29.toInt ≠ 0 := i_ne (a := r29.toInt) (b := 0) rfl rfl c32
          refine ⟨i_in (by omega) (by omega), ?_⟩
          intro x42 ex42
          intro x43 ex43
          refine ⟨i_in (by omega) (by omega), ?_⟩
          intro x52 ex52
          intro x53 ex53
          refine ⟨i_in (by omega) (by omega), ?_⟩
          intro x63 ex63
          have f25 : (0 ≤ x63.toInt ∧ x63.toInt ≤ 1) := i_bz ex63
          intro x64 ex64
          have f26 : (0 ≤ x64.toInt ∧ x64.toInt ≤ 1) := i_and01 (a := l4_26.toInt) (b := x63.toInt) ex64 rfl rfl (by omega) (by omega) (by omega) (by omega)
          refine ⟨i_in (by omega) (by omega), ?_⟩
          intro x75 ex75
          have f27 : (0 ≤ x75.toInt ∧ x75.toInt ≤ 1) := i_bz ex75
          intro x76 ex76
          have f28 : (0 ≤ x76.toInt ∧ x76.toInt ≤ 1) := i_or01 (a := l5_26.toInt) (b := x75.toInt) ex76 rfl rfl (by omega) (by omega) (by omega) (by omega)
          refine ok_X10_nextOf (by omega) (by omega) (rp_mono b0 (by omega) (by omega)) (rp_mono b1 (by omega) (by omega)) (fun r82 f29 f30 f31 => ?_)
          exact ih_26 x43 x53 x64 x76 r82 (by omega) (by omega) (by omega) (by omega) (by omega) (by omega) (by have h8_0 := i_rng l6_26; have h8_1 := i_rng r82; omega)
    exact ⟨((-1) * r21.toInt + 2147483648).toNat + 1, j_26   (((-1) * r21.toInt + 2147483648).toNat + 1) 0 0 1 0 r21 (by omega) (by omega) (by omega) (by omega) (by omega) (by omega) (by omega)⟩
  · have f32 : r2.toInt = 0 := i_eq (a := r2.toInt) (b := 0) rfl rfl c5
    exact hq v_size v_positions v_mayBeEmpty 
set_option maxHeartbeats 4000000 in
theorem ok_X10_measure {v_count : Int32} {v_sort : Nat → Int32} {v_holder : Nat → Int32} {v_end : Nat → Int32} {v_low : Nat → Int32} {v_high : Nat → Int32} {v_size : Nat → Int32} {v_positions : Nat → Int32} {v_mayBeEmpty : Nat → Bool} {v_withinCase : Nat → Bool} {Q : (Nat → Int32) → (Nat → Int32) → (Nat → Bool) → (Nat → Bool) → Prop} (a0 : 0 ≤ v_count.toInt) (a1 : v_count.toInt ≤ 256) (b0 : rp (fun k v => k < v ∧ v ≤ 256) v_end 0 v_count.toInt) (b1 : rp (fun k v => v < k ∧ -1 ≤ v) v_holder 0 v_count.toInt) (hq : ∀ (ov_size : Nat → Int32) (ov_positions : Nat → Int32) (ov_mayBeEmpty : Nat → Bool) (ov_withinCase : Nat → Bool), Q ov_size ov_positions ov_mayBeEmpty ov_withinCase) : w_X10_measure v_count v_sort v_holder v_end v_low v_high v_size v_positions v_mayBeEmpty v_withinCase Q := by
  have q_t : (bz true).toInt = 1 := rfl
  have q_f : (bz false).toInt = 0 := rfl
  have q_0 : (0 : Int32).toInt = 0 := rfl
  have q_1 : (1 : Int32).toInt = 1 := rfl
  unfold w_X10_measure
  have j_2 : ∀ n_2 : Nat, ∀ (l1_2 : Int32) (v_withinCase_2 : Nat → Bool), 0 ≤ l1_2.toInt → l1_2.toInt ≤ v_count.toInt → ((-1) * l1_2.toInt + 2147483648).toNat < n_2 → w_X10_measure_2 v_count v_sort v_holder v_end v_low v_high Q v_size v_positions v_mayBeEmpty n_2 l1_2 v_withinCase_2 := by
    intro n_2
    induction n_2 with
    | zero =>
      intro l1_2 v_withinCase_2 f1 f2 hm_2
      exfalso; omega
    | succ n_2 ih_2 =>
      intro l1_2 v_withinCase_2 f1 f2 hm_2
      unfold w_X10_measure_2
      unfold w_X10_measure_2B
      refine ok_X10_has (by omega) (by omega) (fun r4 f3 => ?_)
      refine ⟨fun c7 => ?_, fun c7 => ?_⟩
      · have f4 : r4.toInt = 0 := i_eq (a := r4.toInt) (b := 0) rfl rfl c7
        intro x74 ex74
        have f5 : x74.toInt = v_count.toInt - 1 := i_sub (a := v_count.toInt) (b := 1) ex74 rfl rfl (by omega) (by omega)
        have j_76 : ∀ n_76 : Nat, ∀ (l1_76 : Int32) (v_size_76 : Nat → Int32) (v_positions_76 : Nat → Int32) (v_mayBeEmpty_76 : Nat → Bool), 0 ≤ l1_76.toInt + 1 → l1_76.toInt + 1 ≤ v_count.toInt → (l1_76.toInt + 2147483649).toNat < n_76 → w_X10_measure_76 v_count v_sort v_holder v_end v_low v_high Q v_withinCase_2 n_76 l1_76 v_size_76 v_positions_76 v_mayBeEmpty_76 := by
          intro n_76
          induction n_76 with
          | zero =>
            intro l1_76 v_size_76 v_positions_76 v_mayBeEmpty_76 f6 f7 hm_76
            exfalso; omega
          | succ n_76 ih_76 =>
            intro l1_76 v_size_76 v_positions_76 v_mayBeEmpty_76 f6 f7 hm_76
            unfold w_X10_measure_76
            unfold w_X10_measure_76B
            refine ok_X10_has (by omega) (by omega) (fun r78 f8 => ?_)
            refine ⟨fun c81 => ?_, fun c81 => ?_⟩
            · have f9 : r78.toInt = 0 := i_eq (a := r78.toInt) (b := 0) rfl rfl c81
              exact hq v_size_76 v_positions_76 v_mayBeEmpty_76 v_withinCase_2 
            · have f10 : r78.toInt ≠ 0 := i_ne (a := r78.toInt) (b := 0) rfl rfl c81
              refine ok_X10_measureNode (by omega) (by omega) (rp_mono b0 (by omega) (by omega)) (rp_mono b1 (by omega) (by omega)) (fun r86_0 r86_1 r86_2 => ?_)
              intro x89 ex89
              have f11 : x89.toInt = l1_76.toInt + (-1) := i_add (a := l1_76.toInt) (b := (-1)) ex89 rfl rfl (by omega) (by omega)
              exact ih_76 x89 r86_0 r86_1 r86_2 (by omega) (by omega) (by have h8_0 := i_rng l1_76; have h8_1 := i_rng x89; omega)
        exact ⟨(x74.toInt + 2147483649).toNat + 1, j_76   ((x74.toInt + 2147483649).toNat + 1) x74 v_size v_positions v_mayBeEmpty (by omega) (by omega) (by omega)⟩
      · have f12 : r4.toInt ≠ 0 := i_ne (a := r4.toInt) (b := 0) rfl rfl c7
        refine ⟨i_in (by omega) (by omega), ?_⟩
        intro x21 ex21
        have f13 : x21.toInt + 1 ≤ l1_2.toInt ∧ 0 ≤ x21.toInt + 1 := by have h9 := rp_get (P := (fun k v => v < k ∧ -1 ≤ v)) (a := l1_2.toInt) b1 ex21 rfl (by omega) (by omega) (by omega); omega
        refine ok_X10_isWithinCase (by omega) (by omega) (fun r22 f14 => ?_)
        have j_62 : ∀ (s0_62 : Int32), ((s0_62.toInt = 0 ∧ r22.toInt = 0 ∧ x21.toInt + 1 ≤ l1_2.toInt ∧ 0 ≤ x21.toInt + 1) ∨ (s0_62.toInt = 1)) → w_X10_measure_62 Q (w_X10_measure_2 v_count v_sort v_holder v_end v_low v_high Q v_size v_positions v_mayBeEmpty n_2) s0_62 l1_2 l1_2 v_withinCase_2 := by
          intro s0_62 f15
          unfold w_X10_measure_62
          refine ⟨i_in (by omega) (by omega), ?_⟩
          intro g62 eg62
          intro x63 ex63
          have f16 : x63.toInt = l1_2.toInt + 1 := i_add (a := l1_2.toInt) (b := 1) ex63 rfl rfl (by omega) (by omega)
          exact ih_2 x63 g62 (by omega) (by omega) (by have h8_0 := i_rng l1_2; have h8_1 := i_rng x63; omega)
        have j_57 : w_X10_measure_57 Q (w_X10_measure_2 v_count v_sort v_holder v_end v_low v_high Q v_size v_positions v_mayBeEmpty n_2) l1_2 l1_2 v_withinCase_2 := by
          unfold w_X10_measure_57
          exact j_62 1 (by omega)
        refine ⟨fun c25 => ?_, fun c25 => ?_⟩
        · have f17 : r22.toInt ≠ 0 := i_ne (a := r22.toInt) (b := 0) rfl rfl c25
          exact j_57  
        · have f18 : r22.toInt = 0 := i_eq (a := r22.toInt) (b := 0) rfl rfl c25
          refine ⟨i_in (by omega) (by omega), ?_⟩
          intro x34 ex34
          have f19 : x34.toInt = x21.toInt := congrArg Int32.toInt (ex34.trans ex21.symm)
          have f20 : x34.toInt + 1 ≤ l1_2.toInt ∧ 0 ≤ x34.toInt + 1 := by have h9 := rp_get (P := (fun k v => v < k ∧ -1 ≤ v)) (a := l1_2.toInt) b1 ex34 rfl (by omega) (by omega) (by omega); omega
          refine ok_X10_has (by omega) (by omega) (fun r35 f21 => ?_)
          have j_61 : ((r35.toInt = 0) ∨ (x21.toInt + 1 ≤ l1_2.toInt ∧ 0 ≤ x21.toInt + 1)) → w_X10_measure_61 Q (w_X10_measure_2 v_count v_sort v_holder v_end v_low v_high Q v_size v_positions v_mayBeEmpty n_2) l1_2 l1_2 v_withinCase_2 := by
            intro f22
            unfold w_X10_measure_61
            exact j_62 0 (by omega)
          refine ⟨fun c38 => ?_, fun c38 => ?_⟩
          · have f23 : r35.toInt = 0 := i_eq (a := r35.toInt) (b := 0) rfl rfl c38
            exact j_61  (by omega)
          · have f24 : r35.toInt ≠ 0 := i_ne (a := r35.toInt) (b := 0) rfl rfl c38
            refine ⟨i_in (by omega) (by omega), ?_⟩
            intro x50 ex50
            have f25 : x50.toInt = x21.toInt := congrArg Int32.toInt (ex50.trans ex21.symm)
            have f26 : x50.toInt + 1 ≤ l1_2.toInt ∧ 0 ≤ x50.toInt + 1 := by have h9 := rp_get (P := (fun k v => v < k ∧ -1 ≤ v)) (a := l1_2.toInt) b1 ex50 rfl (by omega) (by omega) (by omega); omega
            refine ⟨i_in (by omega) (by omega), ?_⟩
            intro x51 ex51
            refine ⟨fun c54 => ?_, fun c54 => ?_⟩
            · have f27 : x51.toInt ≠ 11 := i_ne (a := x51.toInt) (b := 11) rfl rfl c54
              exact j_61  (by omega)
            · have f28 : x51.toInt = 11 := i_eq (a := x51.toInt) (b := 11) rfl rfl c54
              exact j_57  
  exact ⟨(2147483648 : Int).toNat + 1, j_2   ((2147483648 : Int).toNat + 1) 0 v_withinCase (by omega) (by omega) (by omega)⟩
set_option maxHeartbeats 4000000 in
theorem ok_X10_add {p1 : Int32} {p2 : Int32} {p3 : Int32} {p4 : Int32} {p5 : Int32} {v_count : Int32} {v_sort : Nat → Int32} {v_holder : Nat → Int32} {v_before : Nat → Int32} {v_last : Nat → Int32} {v_parts : Nat → Int32} {v_value : Nat → Int32} {v_low : Nat → Int32} {v_high : Nat → Int32} {Q : Int32 → Int32 → (Nat → Int32) → (Nat → Int32) → (Nat → Int32) → (Nat → Int32) → (Nat → Int32) → (Nat → Int32) → (Nat → Int32) → (Nat → Int32) → Prop} (a0 : 0 ≤ v_count.toInt) (a1 : v_count.toInt ≤ 256) (b0 : rp (fun k v => -1 ≤ v ∧ v ≤ 255) v_last 0 v_count.toInt) (b1 : rp (fun k v => v < k ∧ -1 ≤ v) v_holder 0 v_count.toInt) (b2 : rp (fun k v => v < k ∧ -1 ≤ v) v_before 0 v_count.toInt) (hq : ∀ (r : Int32) (ov_count : Int32) (ov_sort : Nat → Int32) (ov_holder : Nat → Int32) (ov_before : Nat → Int32) (ov_last : Nat → Int32) (ov_parts : Nat → Int32) (ov_value : Nat → Int32) (ov_low : Nat → Int32) (ov_high : Nat → Int32), r.toInt ≤ v_count.toInt → v_count.toInt ≤ ov_count.toInt → ((r.toInt + 1 = 0 ∧ ov_count.toInt = v_count.toInt ∧ 256 ≤ v_count.toInt) ∨ (r.toInt = v_count.toInt ∧ v_count.toInt ≤ 255 ∧ ov_count.toInt = v_count.toInt + 1)) → rp (fun k v => -1 ≤ v ∧ v ≤ 255) ov_last 0 v_count.toInt → rp (fun k v => -1 ≤ v ∧ v ≤ 255) ov_last 0 ov_count.toInt → rp (fun k v => -1 ≤ v ∧ v ≤ 255) ov_last (r.toInt + 1) v_count.toInt → rp (fun k v => -1 ≤ v ∧ v ≤ 255) ov_last (r.toInt + 1) ov_count.toInt → rp (fun k v => v < k ∧ -1 ≤ v) ov_holder 0 v_count.toInt → rp (fun k v => v < k ∧ -1 ≤ v) ov_holder (r.toInt + 1) v_count.toInt → rp (fun k v => v < k ∧ -1 ≤ v) ov_holder (r.toInt + 1) ov_count.toInt → rp (fun k v => v < k ∧ -1 ≤ v) ov_before 0 v_count.toInt → rp (fun k v => v < k ∧ -1 ≤ v) ov_before (r.toInt + 1) v_count.toInt → rp (fun k v => v < k ∧ -1 ≤ v) ov_before (r.toInt + 1) ov_count.toInt → rp (fun k v => v < k ∧ -1 ≤ v) ov_holder 0 r.toInt → rp (fun k v => v < k ∧ -1 ≤ v) ov_before 0 r.toInt → rp (fun k v => -1 ≤ v ∧ v ≤ 255) ov_last 0 (r.toInt + 1) → Q r ov_count ov_sort ov_holder ov_before ov_last ov_parts ov_value ov_low ov_high) : w_X10_add p1 p2 p3 p4 p5 v_count v_sort v_holder v_before v_last v_parts v_value v_low v_high Q := by
  have q_t : (bz true).toInt = 1 := rfl
  have q_f : (bz false).toInt = 0 := rfl
  have q_m1 : ((-1) : Int32).toInt = (-1) := rfl
  unfold w_X10_add
  refine ⟨fun c9 => ?_, fun c9 => ?_⟩
  · have f1 : v_count.toInt < 256 := i_lt (a := v_count.toInt) (b := 256) rfl rfl c9
    intro x26 ex26
    have f2 : x26.toInt = v_count.toInt + 1 := i_add (a := v_count.toInt) (b := 1) ex26 rfl rfl (by omega) (by omega)
    refine ⟨i_in (by omega) (by omega), ?_⟩
    intro g37 eg37
    refine ⟨i_in (by omega) (by omega), ?_⟩
    intro g45 eg45
    refine ⟨i_in (by omega) (by omega), ?_⟩
    intro g53 eg53
    refine ⟨i_in (by omega) (by omega), ?_⟩
    intro g62 eg62
    refine ⟨i_in (by omega) (by omega), ?_⟩
    intro g71 eg71
    have h3 : rp (fun k v => v < k ∧ -1 ≤ v) g71 0 v_count.toInt := rp_out (P := (fun k v => v < k ∧ -1 ≤ v)) (a := v_count.toInt) b1 eg71 rfl (by omega) (by omega)
    refine ⟨i_in (by omega) (by omega), ?_⟩
    intro g79 eg79
    refine ⟨i_in (by omega) (by omega), ?_⟩
    intro g87 eg87
    have h4 : rp (fun k v => -1 ≤ v ∧ v ≤ 255) g87 0 (v_count.toInt + 1) := rp_ext (P := (fun k v => -1 ≤ v ∧ v ≤ 255)) (a := v_count.toInt) (b := (-1)) b0 eg87 rfl rfl (by omega) (by omega) ⟨(by omega), (by omega)⟩
    refine ok_X10_lastOf (by omega) (by omega) (rp_mono h4 (by omega) (by omega)) (fun r97 f5 => ?_)
    refine ⟨i_in (by omega) (by omega), ?_⟩
    intro g100 eg100
    have h6 : rp (fun k v => v < k ∧ -1 ≤ v) g100 0 v_count.toInt := rp_out (P := (fun k v => v < k ∧ -1 ≤ v)) (a := v_count.toInt) b2 eg100 rfl (by omega) (by omega)
    refine ok_X10_has (by omega) (by omega) (fun r104 f7 => ?_)
    have j_130 : ∀ (v_last_130 : Nat → Int32) (v_parts_130 : Nat → Int32), rp (fun k v => -1 ≤ v ∧ v ≤ 255) v_last_130 0 (v_count.toInt + 1) → rp (fun k v => -1 ≤ v ∧ v ≤ 255) v_last_130 0 x26.toInt → w_X10_add_130 Q v_count x26 g37 g71 g100 v_last_130 v_parts_130 g45 g53 g62 := by
      intro v_last_130 v_parts_130 h8 h9
      unfold w_X10_add_130
      exact hq v_count x26 g37 g71 g100 v_last_130 v_parts_130 g45 g53 g62 (by omega) (by omega) (by omega) (rp_mono h9 (by omega) (by omega)) (rp_mono h9 (by omega) (by omega)) (rp_mono h9 (by omega) (by omega)) (rp_mono h9 (by omega) (by omega)) (rp_mono h3 (by omega) (by omega)) (rp_mono h3 (by omega) (by omega)) (rp_nil (by omega)) (rp_mono h6 (by omega) (by omega)) (rp_mono h6 (by omega) (by omega)) (rp_nil (by omega)) (rp_mono h3 (by omega) (by omega)) (rp_mono h6 (by omega) (by omega)) (rp_mono h9 (by omega) (by omega))
    refine ⟨fun c107 => ?_, fun c107 => ?_⟩
    · have f10 : r104.toInt = 0 := i_eq (a := r104.toInt) (b := 0) rfl rfl c107
      exact j_130 g87 g79 (rp_mono h4 (by omega) (by omega)) (rp_mono h4 (by omega) (by omega))
    · have f11 : r104.toInt ≠ 0 := i_ne (a := r104.toInt) (b := 0) rfl rfl c107
      refine ⟨i_in (by omega) (by omega), ?_⟩
      intro g118 eg118
      have h12 : rp (fun k v => -1 ≤ v ∧ v ≤ 255) g118 0 (v_count.toInt + 1) := rp_upd (P := (fun k v => -1 ≤ v ∧ v ≤ 255)) (a := p5.toInt) (b := v_count.toInt) h4 eg118 rfl rfl (by omega) ⟨(by omega), (by omega)⟩
      refine ⟨i_in (by omega) (by omega), ?_⟩
      intro x126 ex126
      intro x128 ex128
      refine ⟨i_in (by omega) (by omega), ?_⟩
      intro g129 eg129
      exact j_130 g118 g129 (rp_mono h12 (by omega) (by omega)) (rp_mono h12 (by omega) (by omega))
  · have f13 : 256 ≤ v_count.toInt := i_nlt (a := v_count.toInt) (b := 256) rfl rfl c9
    exact hq (-1) v_count v_sort v_holder v_before v_last v_parts v_value v_low v_high (by omega) (by omega) (by omega) (rp_mono b0 (by omega) (by omega)) (rp_mono b0 (by omega) (by omega)) (rp_mono b0 (by omega) (by omega)) (rp_mono b0 (by omega) (by omega)) (rp_mono b1 (by omega) (by omega)) (rp_mono b1 (by omega) (by omega)) (rp_mono b1 (by omega) (by omega)) (rp_mono b2 (by omega) (by omega)) (rp_mono b2 (by omega) (by omega)) (rp_mono b2 (by omega) (by omega)) (rp_mono b1 (by omega) (by omega)) (rp_mono b2 (by omega) (by omega)) (rp_mono b0 (by omega) (by omega))
