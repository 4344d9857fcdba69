set_option maxHeartbeats 4000000 in
theorem ok_X7_empty  {Q : Int32 → Bool → Prop} (hq : ∀ (ov_count : Int32) (ov_over : Bool), ov_count.toInt = 0 → (bz ov_over).toInt = 0 → Q ov_count ov_over) : w_X7_empty  Q := by
  have q_t : (bz true).toInt = 1 := rfl
  have q_f : (bz false).toInt = 0 := rfl
  have q_0 : (0 : Int32).toInt = 0 := rfl
  unfold w_X7_empty
  exact hq 0 false (by omega) (by omega)
set_option maxHeartbeats 4000000 in
theorem ok_X7_at {p1 : Int32} {v_count : Int32} {v_items : Nat → Int32} {nv_items : Nat} {Q : Int32 → Prop} (a0 : 0 ≤ v_count.toInt) (a1 : v_count.toInt ≤ (nv_items : Int)) (a2 : (nv_items : Int) ≤ 1000) (hq : ∀ (r : Int32), ((0 ≤ p1.toInt ∧ p1.toInt + 1 ≤ v_count.toInt ∧ p1.toInt + 1 ≤ (nv_items : Int)) ∨ (r.toInt + 1 = 0)) → Q r) : w_X7_at p1 v_count v_items nv_items Q := by
  have q_t : (bz true).toInt = 1 := rfl
  have q_f : (bz false).toInt = 0 := rfl
  have q_m1 : ((-1) : Int32).toInt = (-1) := rfl
  unfold w_X7_at
  have j_31 : ∀ (s0_31 : Int32), ((0 ≤ p1.toInt ∧ p1.toInt + 1 ≤ v_count.toInt ∧ p1.toInt + 1 ≤ (nv_items : Int)) ∨ (s0_31.toInt + 1 = 0)) → w_X7_at_31 Q s0_31 := by
    intro s0_31 f1
    unfold w_X7_at_31
    exact hq s0_31 (by omega)
  have j_30 : ((p1.toInt + 1 ≤ 0) ∨ (0 ≤ p1.toInt ∧ v_count.toInt ≤ p1.toInt)) → w_X7_at_30 Q := by
    intro f2
    unfold w_X7_at_30
    exact j_31 (-1) (by omega)
  refine ⟨fun c1 => ?_, fun c1 => ?_⟩
  · have f3 : p1.toInt < 0 := i_lt (a := p1.toInt) (b := 0) rfl rfl c1
    exact j_30  (by omega)
  · have f4 : 0 ≤ p1.toInt := i_nlt (a := p1.toInt) (b := 0) rfl rfl c1
    refine ⟨fun c9 => ?_, fun c9 => ?_⟩
    · have f5 : v_count.toInt ≤ p1.toInt := i_le (a := v_count.toInt) (b := p1.toInt) rfl rfl c9
      exact j_30  (by omega)
    · have f6 : p1.toInt < v_count.toInt := i_nle (a := v_count.toInt) (b := p1.toInt) rfl rfl c9
      intro x17 ex17
      have f7 : x17.toInt = (nv_items : Int) := i_len ex17 (by omega)
      refine ⟨fun c18 => ?_, fun c18 => ?_⟩
      · have f8 : x17.toInt ≤ p1.toInt := i_le (a := x17.toInt) (b := p1.toInt) rfl rfl c18
        exfalso; omega
      · have f9 : p1.toInt < x17.toInt := i_nle (a := x17.toInt) (b := p1.toInt) rfl rfl c18
        refine ⟨i_in (by omega) (by omega), ?_⟩
        intro x26 ex26
        exact j_31 x26 (by omega)
set_option maxHeartbeats 4000000 in
theorem ok_X7_add {p1 : Int32} {v_count : Int32} {v_over : Bool} {v_items : Nat → Int32} {nv_items : Nat} {Q : Int32 → Bool → (Nat → Int32) → Prop} (a0 : 0 ≤ v_count.toInt) (a1 : v_count.toInt ≤ (nv_items : Int)) (a2 : (nv_items : Int) ≤ 1000) (hq : ∀ (ov_count : Int32) (ov_over : Bool) (ov_items : Nat → Int32), 0 ≤ ov_count.toInt → ov_count.toInt ≤ (nv_items : Int) → v_count.toInt ≤ ov_count.toInt → ((v_count.toInt + 1 ≤ (nv_items : Int) ∧ ov_count.toInt = v_count.toInt + 1) ∨ (ov_count.toInt = v_count.toInt ∧ (nv_items : Int) ≤ v_count.toInt)) → Q ov_count ov_over ov_items) : w_X7_add p1 v_count v_over v_items nv_items Q := by
  have q_t : (bz true).toInt = 1 := rfl
  have q_f : (bz false).toInt = 0 := rfl
  unfold w_X7_add
  have j_47 : ∀ (v_count_47 : Int32) (v_over_47 : Bool) (v_items_47 : Nat → Int32), 0 ≤ v_count_47.toInt → v_count_47.toInt ≤ (nv_items : Int) → v_count.toInt ≤ v_count_47.toInt → ((v_count.toInt + 1 ≤ (nv_items : Int) ∧ v_count_47.toInt = v_count.toInt + 1) ∨ (v_count_47.toInt = v_count.toInt ∧ (nv_items : Int) ≤ v_count.toInt)) → w_X7_add_47 Q v_count_47 v_over_47 v_items_47 := by
    intro v_count_47 v_over_47 v_items_47 f1 f2 f3 f4
    unfold w_X7_add_47
    exact hq v_count_47 v_over_47 v_items_47 (by omega) (by omega) (by omega) (by omega)
  have j_42 : (nv_items : Int) ≤ v_count.toInt → w_X7_add_42 Q v_count v_over v_items := by
    intro f5
    unfold w_X7_add_42
    exact j_47 v_count true v_items (by omega) (by omega) (by omega) (by omega)
  refine ⟨fun c4 => ?_, fun c4 => ?_⟩
  · have f6 : v_count.toInt < 0 := i_lt (a := v_count.toInt) (b := 0) rfl rfl c4
    exfalso; omega
  · have f7 : 0 ≤ v_count.toInt := i_nlt (a := v_count.toInt) (b := 0) rfl rfl c4
    intro x15 ex15
    have f8 : x15.toInt = (nv_items : Int) := i_len ex15 (by omega)
    refine ⟨fun c16 => ?_, fun c16 => ?_⟩
    · have f9 : x15.toInt ≤ v_count.toInt := i_le (a := x15.toInt) (b := v_count.toInt) rfl rfl c16
      exact j_42  (by omega)
    · have f10 : v_count.toInt < x15.toInt := i_nle (a := x15.toInt) (b := v_count.toInt) rfl rfl c16
      refine ⟨i_in (by omega) (by omega), ?_⟩
      intro g28 eg28
      intro x35 ex35
      have f11 : x35.toInt = v_count.toInt + 1 := i_add (a := v_count.toInt) (b := 1) ex35 rfl rfl (by omega) (by omega)
      exact j_47 x35 v_over g28 (by omega) (by omega) (by omega) (by omega)
set_option maxHeartbeats 4000000 in
theorem ok_X7_addFrom {p2 : Int32} {p3 : Int32} {a1_count : Int32} {a1_items : Nat → Int32} {na1_items : Nat} {v_count : Int32} {v_over : Bool} {v_items : Nat → Int32} {nv_items : Nat} {Q : Int32 → Bool → (Nat → Int32) → Prop} (a0 : 0 ≤ a1_count.toInt) (a1 : a1_count.toInt ≤ (na1_items : Int)) (a2 : (na1_items : Int) ≤ 1000) (a3 : 0 ≤ v_count.toInt) (a4 : v_count.toInt ≤ (nv_items : Int)) (a5 : (nv_items : Int) ≤ 1000) (hq : ∀ (ov_count : Int32) (ov_over : Bool) (ov_items : Nat → Int32), 0 ≤ ov_count.toInt + 1 → 0 ≤ ov_count.toInt → ov_count.toInt ≤ 1000 → v_count.toInt ≤ ov_count.toInt → ov_count.toInt ≤ (nv_items : Int) → Q ov_count ov_over ov_items) : w_X7_addFrom p2 p3 a1_count a1_items na1_items v_count v_over v_items nv_items Q := by
  have q_t : (bz true).toInt = 1 := rfl
  have q_f : (bz false).toInt = 0 := rfl
  unfold w_X7_addFrom
  intro x2 ex2
  have f1 : ((x2.toInt = p2.toInt ∧ 0 ≤ p2.toInt) ∨ (x2.toInt = 0 ∧ p2.toInt ≤ 0)) := by have h9 := i_max (a := p2.toInt) (b := 0) ex2 rfl rfl; omega
  have j_7 : ∀ n_7 : Nat, ∀ (l4_7 : Int32) (v_count_7 : Int32) (v_over_7 : Bool) (v_items_7 : Nat → Int32), x2.toInt ≤ l4_7.toInt → v_count.toInt ≤ v_count_7.toInt → v_count_7.toInt ≤ (nv_items : Int) → ((-1) * l4_7.toInt + 2147483648).toNat < n_7 → w_X7_addFrom_7 p3 a1_count a1_items na1_items nv_items Q n_7 l4_7 v_count_7 v_over_7 v_items_7 := by
    intro n_7
    induction n_7 with
    | zero =>
      intro l4_7 v_count_7 v_over_7 v_items_7 f2 f3 f4 hm_7
      exfalso; omega
    | succ n_7 ih_7 =>
      intro l4_7 v_count_7 v_over_7 v_items_7 f2 f3 f4 hm_7
      unfold w_X7_addFrom_7
      unfold w_X7_addFrom_7B
      have j_38 : ((p3.toInt ≤ l4_7.toInt) ∨ (l4_7.toInt + 1 ≤ p3.toInt ∧ a1_count.toInt ≤ l4_7.toInt)) → w_X7_addFrom_38 Q v_count_7 v_over_7 v_items_7 := by
        intro f5
        unfold w_X7_addFrom_38
        exact hq v_count_7 v_over_7 v_items_7 (by omega) (by omega) (by omega) (by omega) (by omega)
      refine ⟨fun c10 => ?_, fun c10 => ?_⟩
      · have f6 : p3.toInt ≤ l4_7.toInt := i_le (a := p3.toInt) (b := l4_7.toInt) rfl rfl c10
        exact j_38  (by omega)
      · have f7 : l4_7.toInt < p3.toInt := i_nle (a := p3.toInt) (b := l4_7.toInt) rfl rfl c10
        refine ⟨fun c19 => ?_, fun c19 => ?_⟩
        · have f8 : a1_count.toInt ≤ l4_7.toInt := i_le (a := a1_count.toInt) (b := l4_7.toInt) rfl rfl c19
          exact j_38  (by omega)
        · have f9 : l4_7.toInt < a1_count.toInt := i_nle (a := a1_count.toInt) (b := l4_7.toInt) rfl rfl c19
          refine ok_X7_at (by omega) (by omega) (by omega) (fun r26 f10 => ?_)
          refine ok_X7_add (by omega) (by omega) (by omega) (fun r29_0 r29_1 r29_2 f11 f12 f13 f14 => ?_)
          intro x32 ex32
          have f15 : x32.toInt = l4_7.toInt + 1 := i_add (a := l4_7.toInt) (b := 1) ex32 rfl rfl (by omega) (by omega)
          exact ih_7 x32 r29_0 r29_1 r29_2 (by omega) (by omega) (by omega) (by have h8_0 := i_rng l4_7; have h8_1 := i_rng x32; omega)
  exact ⟨((-1) * x2.toInt + 2147483648).toNat + 1, j_7   (((-1) * x2.toInt + 2147483648).toNat + 1) x2 v_count v_over v_items (by omega) (by omega) (by omega) (by omega)⟩
set_option maxHeartbeats 4000000 in
theorem ok_X7_take {a1_count : Int32} {a1_items : Nat → Int32} {na1_items : Nat} {v_items : Nat → Int32} {nv_items : Nat} {Q : Int32 → Bool → (Nat → Int32) → Prop} (a0 : 0 ≤ a1_count.toInt) (a1 : a1_count.toInt ≤ (na1_items : Int)) (a2 : (na1_items : Int) ≤ 1000) (a3 : (nv_items : Int) ≤ 1000) (hq : ∀ (ov_count : Int32) (ov_over : Bool) (ov_items : Nat → Int32), 0 ≤ ov_count.toInt + 1 → 0 ≤ ov_count.toInt → ov_count.toInt ≤ 1000 → ov_count.toInt ≤ (nv_items : Int) → Q ov_count ov_over ov_items) : w_X7_take a1_count a1_items na1_items v_items nv_items Q := by
  have q_t : (bz true).toInt = 1 := rfl
  have q_f : (bz false).toInt = 0 := rfl
  have q_0 : (0 : Int32).toInt = 0 := rfl
  unfold w_X7_take
  refine ok_X7_empty  (fun r1_0 r1_1 f1 f2 => ?_)
  refine ok_X7_addFrom (by omega) (by omega) (by omega) (by omega) (by omega) (by omega) (fun r11_0 r11_1 r11_2 f3 f4 f5 f6 f7 => ?_)
  exact hq r11_0 r11_1 r11_2 (by omega) (by omega) (by omega) (by omega)
set_option maxHeartbeats 4000000 in
theorem ok_X7_turnRound {v_count : Int32} {v_items : Nat → Int32} {nv_items : Nat} {Q : (Nat → Int32) → Prop} (a0 : 0 ≤ v_count.toInt) (a1 : v_count.toInt ≤ (nv_items : Int)) (a2 : (nv_items : Int) ≤ 1000) (hq : ∀ (ov_items : Nat → Int32), Q ov_items) : w_X7_turnRound v_count v_items nv_items Q := by
  have q_t : (bz true).toInt = 1 := rfl
  have q_f : (bz false).toInt = 0 := rfl
  have q_0 : (0 : Int32).toInt = 0 := rfl
  unfold w_X7_turnRound
  intro x7 ex7
  have f1 : x7.toInt = v_count.toInt - 1 := i_sub (a := v_count.toInt) (b := 1) ex7 rfl rfl (by omega) (by omega)
  have j_9 : ∀ n_9 : Nat, ∀ (l1_9 : Int32) (l2_9 : Int32) (v_items_9 : Nat → Int32), 0 ≤ l1_9.toInt → l1_9.toInt ≤ v_count.toInt → 0 ≤ l2_9.toInt + 1 → l2_9.toInt + 1 ≤ v_count.toInt → ((-1) * l1_9.toInt + 2147483648).toNat < n_9 → w_X7_turnRound_9 nv_items Q n_9 l1_9 l2_9 v_items_9 := by
    intro n_9
    induction n_9 with
    | zero =>
      intro l1_9 l2_9 v_items_9 f2 f3 f4 f5 hm_9
      exfalso; omega
    | succ n_9 ih_9 =>
      intro l1_9 l2_9 v_items_9 f2 f3 f4 f5 hm_9
      unfold w_X7_turnRound_9
      unfold w_X7_turnRound_9B
      have j_58 : l2_9.toInt ≤ l1_9.toInt → w_X7_turnRound_58 Q v_items_9 := by
        intro f6
        unfold w_X7_turnRound_58
        exact hq v_items_9 
      refine ⟨fun c11 => ?_, fun c11 => ?_⟩
      · have f7 : l2_9.toInt ≤ l1_9.toInt := i_le (a := l2_9.toInt) (b := l1_9.toInt) rfl rfl c11
        exact j_58  (by omega)
      · have f8 : l1_9.toInt < l2_9.toInt := i_nle (a := l2_9.toInt) (b := l1_9.toInt) rfl rfl c11
        intro x19 ex19
        have f9 : x19.toInt = (nv_items : Int) := i_len ex19 (by omega)
        refine ⟨fun c20 => ?_, fun c20 => ?_⟩
        · have f10 : x19.toInt ≤ l2_9.toInt := i_le (a := x19.toInt) (b := l2_9.toInt) rfl rfl c20
          exfalso; omega
        · have f11 : l2_9.toInt < x19.toInt := i_nle (a := x19.toInt) (b := l2_9.toInt) rfl rfl c20
          refine ⟨i_in (by omega) (by omega), ?_⟩
          intro x28 ex28
          refine ⟨i_in (by omega) (by omega), ?_⟩
          intro x40 ex40
          refine ⟨i_in (by omega) (by omega), ?_⟩
          intro g41 eg41
          refine ⟨i_in (by omega) (by omega), ?_⟩
          intro g48 eg48
          intro x49 ex49
          have f12 : x49.toInt = l1_9.toInt + 1 := i_add (a := l1_9.toInt) (b := 1) ex49 rfl rfl (by omega) (by omega)
          intro x52 ex52
          have f13 : x52.toInt = l2_9.toInt + (-1) := i_add (a := l2_9.toInt) (b := (-1)) ex52 rfl rfl (by omega) (by omega)
          exact ih_9 x49 x52 g48 (by omega) (by omega) (by omega) (by omega) (by have h8_0 := i_rng l1_9; have h8_1 := i_rng x49; omega)
  exact ⟨(2147483648 : Int).toNat + 1, j_9   ((2147483648 : Int).toNat + 1) 0 x7 v_items (by omega) (by omega) (by omega) (by omega) (by omega)⟩
set_option maxHeartbeats 4000000 in
theorem ok_X10_sortOf {p1 : Int32} {v_count : Int32} {v_sort : Nat → Int32} {Q : Int32 → Prop} (a0 : 0 ≤ v_count.toInt) (a1 : v_count.toInt ≤ 256) (hq : ∀ (r : Int32), ((0 ≤ p1.toInt ∧ p1.toInt + 1 ≤ v_count.toInt) ∨ (r.toInt = 5)) → Q r) : w_X10_sortOf p1 v_count v_sort Q := by
  have q_t : (bz true).toInt = 1 := rfl
  have q_f : (bz false).toInt = 0 := rfl
  have q_5 : (5 : Int32).toInt = 5 := rfl
  unfold w_X10_sortOf
  have j_22 : ∀ (s0_22 : Int32), ((0 ≤ p1.toInt ∧ p1.toInt + 1 ≤ v_count.toInt) ∨ (s0_22.toInt = 5)) → w_X10_sortOf_22 Q s0_22 := by
    intro s0_22 f1
    unfold w_X10_sortOf_22
    exact hq s0_22 (by omega)
  have j_21 : ((p1.toInt + 1 ≤ 0) ∨ (0 ≤ p1.toInt ∧ v_count.toInt ≤ p1.toInt)) → w_X10_sortOf_21 Q := by
    intro f2
    unfold w_X10_sortOf_21
    exact j_22 5 (by omega)
  refine ⟨fun c1 => ?_, fun c1 => ?_⟩
  · have f3 : p1.toInt < 0 := i_lt (a := p1.toInt) (b := 0) rfl rfl c1
    exact j_21  (by omega)
  · have f4 : 0 ≤ p1.toInt := i_nlt (a := p1.toInt) (b := 0) rfl rfl c1
    refine ⟨fun c9 => ?_, fun c9 => ?_⟩
    · have f5 : v_count.toInt ≤ p1.toInt := i_le (a := v_count.toInt) (b := p1.toInt) rfl rfl c9
      exact j_21  (by omega)
    · have f6 : p1.toInt < v_count.toInt := i_nle (a := v_count.toInt) (b := p1.toInt) rfl rfl c9
      refine ⟨i_in (by omega) (by omega), ?_⟩
      intro x17 ex17
      exact j_22 x17 (by omega)
set_option maxHeartbeats 4000000 in
theorem ok_X10_has {p1 : Int32} {v_count : Int32} {Q : Int32 → Prop} (a0 : 0 ≤ v_count.toInt) (a1 : v_count.toInt ≤ 256) (hq : ∀ (r : Int32), ((r.toInt = 1 ∧ 0 ≤ p1.toInt ∧ p1.toInt + 1 ≤ v_count.toInt) ∨ (r.toInt = 0)) → Q r) : w_X10_has p1 v_count Q := by
  have q_t : (bz true).toInt = 1 := rfl
  have q_f : (bz false).toInt = 0 := rfl
  have q_0 : (0 : Int32).toInt = 0 := rfl
  have q_1 : (1 : Int32).toInt = 1 := rfl
  unfold w_X10_has
  have j_17 : ∀ (s0_17 : Int32), ((s0_17.toInt = 1 ∧ 0 ≤ p1.toInt ∧ p1.toInt + 1 ≤ v_count.toInt) ∨ (s0_17.toInt = 0)) → w_X10_has_17 Q s0_17 := by
    intro s0_17 f1
    unfold w_X10_has_17
    refine ⟨i_01 (by omega) (by omega), ?_⟩
    exact hq s0_17 (by omega)
  have j_16 : ((p1.toInt + 1 ≤ 0) ∨ (0 ≤ p1.toInt ∧ v_count.toInt ≤ p1.toInt)) → w_X10_has_16 Q := by
    intro f2
    unfold w_X10_has_16
    exact j_17 0 (by omega)
  refine ⟨fun c1 => ?_, fun c1 => ?_⟩
  · have f3 : p1.toInt < 0 := i_lt (a := p1.toInt) (b := 0) rfl rfl c1
    exact j_16  (by omega)
  · have f4 : 0 ≤ p1.toInt := i_nlt (a := p1.toInt) (b := 0) rfl rfl c1
    refine ⟨fun c9 => ?_, fun c9 => ?_⟩
    · have f5 : v_count.toInt ≤ p1.toInt := i_le (a := v_count.toInt) (b := p1.toInt) rfl rfl c9
      exact j_16  (by omega)
    · have f6 : p1.toInt < v_count.toInt := i_nle (a := v_count.toInt) (b := p1.toInt) rfl rfl c9
      exact j_17 1 (by omega)
set_option maxHeartbeats 4000000 in
theorem ok_X10_holderOf {p1 : Int32} {v_count : Int32} {v_holder : Nat → Int32} {Q : Int32 → Prop} (a0 : 0 ≤ v_count.toInt) (a1 : v_count.toInt ≤ 256) (b0 : rp (fun k v => v < k ∧ -1 ≤ v) v_holder 0 v_count.toInt) (hq : ∀ (r : Int32), ((0 ≤ p1.toInt ∧ p1.toInt + 1 ≤ v_count.toInt ∧ r.toInt + 1 ≤ p1.toInt ∧ 0 ≤ r.toInt + 1) ∨ (r.toInt + 1 = 0)) → Q r) : w_X10_holderOf p1 v_count v_holder Q := by
  have q_t : (bz true).toInt = 1 := rfl
  have q_f : (bz false).toInt = 0 := rfl
  have q_m1 : ((-1) : Int32).toInt = (-1) := rfl
  unfold w_X10_holderOf
  have j_22 : ∀ (s0_22 : Int32), ((0 ≤ p1.toInt ∧ p1.toInt + 1 ≤ v_count.toInt ∧ s0_22.toInt + 1 ≤ p1.toInt ∧ 0 ≤ s0_22.toInt + 1) ∨ (s0_22.toInt + 1 = 0)) → w_X10_holderOf_22 Q s0_22 := by
    intro s0_22 f1
    unfold w_X10_holderOf_22
    exact hq s0_22 (by omega)
  have j_21 : ((p1.toInt + 1 ≤ 0) ∨ (0 ≤ p1.toInt ∧ v_count.toInt ≤ p1.toInt)) → w_X10_holderOf_21 Q := by
    intro f2
    unfold w_X10_holderOf_21
    exact j_22 (-1) (by omega)
  refine ⟨fun c1 => ?_, fun c1 => ?_⟩
  · have f3 : p1.toInt < 0 := i_lt (a := p1.toInt) (b := 0) rfl rfl c1
    exact j_21  (by omega)
  · have f4 : 0 ≤ p1.toInt := i_nlt (a := p1.toInt) (b := 0) rfl rfl c1
    refine ⟨fun c9 => ?_, fun c9 => ?_⟩
    · have f5 : v_count.toInt ≤ p1.toInt := i_le (a := v_count.toInt) (b := p1.toInt) rfl rfl c9
      exact j_21  (by omega)
    · have f6 : p1.toInt < v_count.toInt := i_nle (a := v_count.toInt) (b := p1.toInt) rfl rfl c9
      refine ⟨i_in (by omega) (by omega), ?_⟩
      intro x17 ex17
      have f7 : x17.toInt + 1 ≤ p1.toInt ∧ 0 ≤ x17.toInt + 1 := by have h9 := rp_get (P := (fun k v => v < k ∧ -1 ≤ v)) (a := p1.toInt) b0 ex17 rfl (by omega) (by omega) (by omega); omega
      exact j_22 x17 (by omega)
set_option maxHeartbeats 4000000 in
theorem ok_X10_valueOf {p1 : Int32} {v_count : Int32} {v_value : Nat → Int32} {Q : Int32 → Prop} (a0 : 0 ≤ v_count.toInt) (a1 : v_count.toInt ≤ 256) (hq : ∀ (r : Int32), ((0 ≤ p1.toInt ∧ p1.toInt + 1 ≤ v_count.toInt) ∨ (r.toInt = 0)) → Q r) : w_X10_valueOf p1 v_count v_value Q := by
  have q_t : (bz true).toInt = 1 := rfl
  have q_f : (bz false).toInt = 0 := rfl
  have q_0 : (0 : Int32).toInt = 0 := rfl
  unfold w_X10_valueOf
  have j_22 : ∀ (s0_22 : Int32), ((0 ≤ p1.toInt ∧ p1.toInt + 1 ≤ v_count.toInt) ∨ (s0_22.toInt = 0)) → w_X10_valueOf_22 Q s0_22 := by
    intro s0_22 f1
    unfold w_X10_valueOf_22
    exact hq s0_22 (by omega)
  have j_21 : ((p1.toInt + 1 ≤ 0) ∨ (0 ≤ p1.toInt ∧ v_count.toInt ≤ p1.toInt)) → w_X10_valueOf_21 Q := by
    intro f2
    unfold w_X10_valueOf_21
    exact j_22 0 (by omega)
  refine ⟨fun c1 => ?_, fun c1 => ?_⟩
  · have f3 : p1.toInt < 0 := i_lt (a := p1.toInt) (b := 0) rfl rfl c1
    exact j_21  (by omega)
  · have f4 : 0 ≤ p1.toInt := i_nlt (a := p1.toInt) (b := 0) rfl rfl c1
    refine ⟨fun c9 => ?_, fun c9 => ?_⟩
    · have f5 : v_count.toInt ≤ p1.toInt := i_le (a := v_count.toInt) (b := p1.toInt) rfl rfl c9
      exact j_21  (by omega)
    · have f6 : p1.toInt < v_count.toInt := i_nle (a := v_count.toInt) (b := p1.toInt) rfl rfl c9
      refine ⟨i_in (by omega) (by omega), ?_⟩
      intro x17 ex17
      exact j_22 x17 (by omega)
set_option maxHeartbeats 4000000 in
theorem ok_X10_lowOf {p1 : Int32} {v_count : Int32} {v_low : Nat → Int32} {Q : Int32 → Prop} (a0 : 0 ≤ v_count.toInt) (a1 : v_count.toInt ≤ 256) (hq : ∀ (r : Int32), ((0 ≤ p1.toInt ∧ p1.toInt + 1 ≤ v_count.toInt) ∨ (r.toInt = 0)) → Q r) : w_X10_lowOf p1 v_count v_low Q := by
  have q_t : (bz true).toInt = 1 := rfl
  have q_f : (bz false).toInt = 0 := rfl
  have q_0 : (0 : Int32).toInt = 0 := rfl
  unfold w_X10_lowOf
  have j_22 : ∀ (s0_22 : Int32), ((0 ≤ p1.toInt ∧ p1.toInt + 1 ≤ v_count.toInt) ∨ (s0_22.toInt = 0)) → w_X10_lowOf_22 Q s0_22 := by
    intro s0_22 f1
    unfold w_X10_lowOf_22
    exact hq s0_22 (by omega)
  have j_21 : ((p1.toInt + 1 ≤ 0) ∨ (0 ≤ p1.toInt ∧ v_count.toInt ≤ p1.toInt)) → w_X10_lowOf_21 Q := by
    intro f2
    unfold w_X10_lowOf_21
    exact j_22 0 (by omega)
  refine ⟨fun c1 => ?_, fun c1 => ?_⟩
  · have f3 : p1.toInt < 0 := i_lt (a := p1.toInt) (b := 0) rfl rfl c1
    exact j_21  (by omega)
  · have f4 : 0 ≤ p1.toInt := i_nlt (a := p1.toInt) (b := 0) rfl rfl c1
    refine ⟨fun c9 => ?_, fun c9 => ?_⟩
    · have f5 : v_count.toInt ≤ p1.toInt := i_le (a := v_count.toInt) (b := p1.toInt) rfl rfl c9
      exact j_21  (by omega)
    · have f6 : p1.toInt < v_count.toInt := i_nle (a := v_count.toInt) (b := p1.toInt) rfl rfl c9
      refine ⟨i_in (by omega) (by omega), ?_⟩
      intro x17 ex17
      exact j_22 x17 (by omega)
set_option maxHeartbeats 4000000 in
theorem ok_X10_highOf {p1 : Int32} {v_count : Int32} {v_high : Nat → Int32} {Q : Int32 → Prop} (a0 : 0 ≤ v_count.toInt) (a1 : v_count.toInt ≤ 256) (hq : ∀ (r : Int32), ((0 ≤ p1.toInt ∧ p1.toInt + 1 ≤ v_count.toInt) ∨ (r.toInt = 0)) → Q r) : w_X10_highOf p1 v_count v_high Q := by
  have q_t : (bz true).toInt = 1 := rfl
  have q_f : (bz false).toInt = 0 := rfl
  have q_0 : (0 : Int32).toInt = 0 := rfl
  unfold w_X10_highOf
  have j_22 : ∀ (s0_22 : Int32), ((0 ≤ p1.toInt ∧ p1.toInt + 1 ≤ v_count.toInt) ∨ (s0_22.toInt = 0)) → w_X10_highOf_22 Q s0_22 := by
    intro s0_22 f1
    unfold w_X10_highOf_22
    exact hq s0_22 (by omega)
  have j_21 : ((p1.toInt + 1 ≤ 0) ∨ (0 ≤ p1.toInt ∧ v_count.toInt ≤ p1.toInt)) → w_X10_highOf_21 Q := by
    intro f2
    unfold w_X10_highOf_21
    exact j_22 0 (by omega)
  refine ⟨fun c1 => ?_, fun c1 => ?_⟩
  · have f3 : p1.toInt < 0 := i_lt (a := p1.toInt) (b := 0) rfl rfl c1
    exact j_21  (by omega)
  · have f4 : 0 ≤ p1.toInt := i_nlt (a := p1.toInt) (b := 0) rfl rfl c1
    refine ⟨fun c9 => ?_, fun c9 => ?_⟩
    · have f5 : v_count.toInt ≤ p1.toInt := i_le (a := v_count.toInt) (b := p1.toInt) rfl rfl c9
      exact j_21  (by omega)
    · have f6 : p1.toInt < v_count.toInt := i_nle (a := v_count.toInt) (b := p1.toInt) rfl rfl c9
      refine ⟨i_in (by omega) (by omega), ?_⟩
      intro x17 ex17
      exact j_22 x17 (by omega)
set_option maxHeartbeats 4000000 in
theorem ok_X10_lastOf {p1 : Int32} {v_count : Int32} {v_last : Nat → Int32} {Q : Int32 → Prop} (a0 : 0 ≤ v_count.toInt) (a1 : v_count.toInt ≤ 256) (b0 : rp (fun k v => -1 ≤ v ∧ v ≤ 255) v_last 0 v_count.toInt) (hq : ∀ (r : Int32), ((0 ≤ p1.toInt ∧ p1.toInt + 1 ≤ v_count.toInt ∧ 0 ≤ r.toInt + 1 ∧ r.toInt ≤ 255) ∨ (r.toInt + 1 = 0)) → Q r) : w_X10_lastOf p1 v_count v_last Q := by
  have q_t : (bz true).toInt = 1 := rfl
  have q_f : (bz false).toInt = 0 := rfl
  have q_m1 : ((-1) : Int32).toInt = (-1) := rfl
  unfold w_X10_lastOf
  have j_22 : ∀ (s0_22 : Int32), ((0 ≤ p1.toInt ∧ p1.toInt + 1 ≤ v_count.toInt ∧ 0 ≤ s0_22.toInt + 1 ∧ s0_22.toInt ≤ 255) ∨ (s0_22.toInt + 1 = 0)) → w_X10_lastOf_22 Q s0_22 := by
    intro s0_22 f1
    unfold w_X10_lastOf_22
    exact hq s0_22 (by omega)
  have j_21 : ((p1.toInt + 1 ≤ 0) ∨ (0 ≤ p1.toInt ∧ v_count.toInt ≤ p1.toInt)) → w_X10_lastOf_21 Q := by
    intro f2
    unfold w_X10_lastOf_21
    exact j_22 (-1) (by omega)
  refine ⟨fun c1 => ?_, fun c1 => ?_⟩
  · have f3 : p1.toInt < 0 := i_lt (a := p1.toInt) (b := 0) rfl rfl c1
    exact j_21  (by omega)
  · have f4 : 0 ≤ p1.toInt := i_nlt (a := p1.toInt) (b := 0) rfl rfl c1
    refine ⟨fun c9 => ?_, fun c9 => ?_⟩
    · have f5 : v_count.toInt ≤ p1.toInt := i_le (a := v_count.toInt) (b := p1.toInt) rfl rfl c9
      exact j_21  (by omega)
    · have f6 : p1.toInt < v_count.toInt := i_nle (a := v_count.toInt) (b := p1.toInt) rfl rfl c9
      refine ⟨i_in (by omega) (by omega), ?_⟩
      intro x17 ex17
      have f7 : 0 ≤ x17.toInt + 1 ∧ x17.toInt ≤ 255 := by have h9 := rp_get (P := (fun k v => -1 ≤ v ∧ v ≤ 255)) (a := p1.toInt) b0 ex17 rfl (by omega) (by omega) (by omega); omega
      exact j_22 x17 (by omega)
set_option maxHeartbeats 4000000 in
theorem ok_X10_beforeOf {p1 : Int32} {v_count : Int32} {v_before : Nat → Int32} {Q : Int32 → Prop} (a0 : 0 ≤ v_count.toInt) (a1 : v_count.toInt ≤ 256) (b0 : rp (fun k v => v < k ∧ -1 ≤ v) v_before 0 v_count.toInt) (hq : ∀ (r : Int32), ((0 ≤ p1.toInt ∧ p1.toInt + 1 ≤ v_count.toInt ∧ r.toInt + 1 ≤ p1.toInt ∧ 0 ≤ r.toInt + 1) ∨ (r.toInt + 1 = 0)) → Q r) : w_X10_beforeOf p1 v_count v_before Q := by
  have q_t : (bz true).toInt = 1 := rfl
  have q_f : (bz false).toInt = 0 := rfl
  have q_m1 : ((-1) : Int32).toInt = (-1) := rfl
  unfold w_X10_beforeOf
  have j_22 : ∀ (s0_22 : Int32), ((0 ≤ p1.toInt ∧ p1.toInt + 1 ≤ v_count.toInt ∧ s0_22.toInt + 1 ≤ p1.toInt ∧ 0 ≤ s0_22.toInt + 1) ∨ (s0_22.toInt + 1 = 0)) → w_X10_beforeOf_22 Q s0_22 := by
    intro s0_22 f1
    unfold w_X10_beforeOf_22
    exact hq s0_22 (by omega)
  have j_21 : ((p1.toInt + 1 ≤ 0) ∨ (0 ≤ p1.toInt ∧ v_count.toInt ≤ p1.toInt)) → w_X10_beforeOf_21 Q := by
    intro f2
    unfold w_X10_beforeOf_21
    exact j_22 (-1) (by omega)
  refine ⟨fun c1 => ?_, fun c1 => ?_⟩
  · have f3 : p1.toInt < 0 := i_lt (a := p1.toInt) (b := 0) rfl rfl c1
    exact j_21  (by omega)
  · have f4 : 0 ≤ p1.toInt := i_nlt (a := p1.toInt) (b := 0) rfl rfl c1
    refine ⟨fun c9 => ?_, fun c9 => ?_⟩
    · have f5 : v_count.toInt ≤ p1.toInt := i_le (a := v_count.toInt) (b := p1.toInt) rfl rfl c9
      exact j_21  (by omega)
    · have f6 : p1.toInt < v_count.toInt := i_nle (a := v_count.toInt) (b := p1.toInt) rfl rfl c9
      refine ⟨i_in (by omega) (by omega), ?_⟩
      intro x17 ex17
      have f7 : x17.toInt + 1 ≤ p1.toInt ∧ 0 ≤ x17.toInt + 1 := by have h9 := rp_get (P := (fun k v => v < k ∧ -1 ≤ v)) (a := p1.toInt) b0 ex17 rfl (by omega) (by omega) (by omega); omega
      exact j_22 x17 (by omega)
set_option maxHeartbeats 4000000 in
theorem ok_X10_endOf {p1 : Int32} {v_count : Int32} {v_end : Nat → Int32} {Q : Int32 → Prop} (a0 : 0 ≤ v_count.toInt) (a1 : v_count.toInt ≤ 256) (b0 : rp (fun k v => k < v ∧ v ≤ 256) v_end 0 v_count.toInt) (hq : ∀ (r : Int32), ((0 ≤ p1.toInt ∧ p1.toInt + 1 ≤ v_count.toInt ∧ p1.toInt + 1 ≤ r.toInt ∧ r.toInt ≤ 256) ∨ (r.toInt = v_count.toInt)) → Q r) : w_X10_endOf p1 v_count v_end Q := by
  have q_t : (bz true).toInt = 1 := rfl
  have q_f : (bz false).toInt = 0 := rfl
  unfold w_X10_endOf
  have j_25 : ∀ (s0_25 : Int32), ((0 ≤ p1.toInt ∧ p1.toInt + 1 ≤ v_count.toInt ∧ p1.toInt + 1 ≤ s0_25.toInt ∧ s0_25.toInt ≤ 256) ∨ (s0_25.toInt = v_count.toInt)) → w_X10_endOf_25 Q s0_25 := by
    intro s0_25 f1
    unfold w_X10_endOf_25
    exact hq s0_25 (by omega)
  have j_21 : ((p1.toInt + 1 ≤ 0) ∨ (0 ≤ p1.toInt ∧ v_count.toInt ≤ p1.toInt)) → w_X10_endOf_21 v_count Q := by
    intro f2
    unfold w_X10_endOf_21
    exact j_25 v_count (by omega)
  refine ⟨fun c1 => ?_, fun c1 => ?_⟩
  · have f3 : p1.toInt < 0 := i_lt (a := p1.toInt) (b := 0) rfl rfl c1
    exact j_21  (by omega)
  · have f4 : 0 ≤ p1.toInt := i_nlt (a := p1.toInt) (b := 0) rfl rfl c1
    refine ⟨fun c9 => ?_, fun c9 => ?_⟩
    · have f5 : v_count.toInt ≤ p1.toInt := i_le (a := v_count.toInt) (b := p1.toInt) rfl rfl c9
      exact j_21  (by omega)
    · have f6 : p1.toInt < v_count.toInt := i_nle (a := v_count.toInt) (b := p1.toInt) rfl rfl c9
      refine ⟨i_in (by omega) (by omega), ?_⟩
      intro x17 ex17
      have f7 : p1.toInt + 1 ≤ x17.toInt ∧ x17.toInt ≤ 256 := by have h9 := rp_get (P := (fun k v => k < v ∧ v ≤ 256)) (a := p1.toInt) b0 ex17 rfl (by omega) (by omega) (by omega); omega
      exact j_25 x17 (by omega)
set_option maxHeartbeats 4000000 in
theorem ok_X10_isEndless {p1 : Int32} {v_count : Int32} {v_sort : Nat → Int32} {v_high : Nat → Int32} {Q : Int32 → Prop} (a0 : 0 ≤ v_count.toInt) (a1 : v_count.toInt ≤ 256) (hq : ∀ (r : Int32), 0 ≤ r.toInt → r.toInt ≤ 1 → Q r) : w_X10_isEndless p1 v_count v_sort v_high Q := by
  have q_t : (bz true).toInt = 1 := rfl
  have q_f : (bz false).toInt = 0 := rfl
  have q_0 : (0 : Int32).toInt = 0 := rfl
  have q_1 : (1 : Int32).toInt = 1 := rfl
  unfold w_X10_isEndless
  refine ok_X10_sortOf (by omega) (by omega) (fun r2 f1 => ?_)
  have j_24 : ∀ (s0_24 : Int32), ((s0_24.toInt = 1 ∧ r2.toInt = 7) ∨ (s0_24.toInt = 0)) → w_X10_isEndless_24 Q s0_24 := by
    intro s0_24 f2
    unfold w_X10_isEndless_24
    refine ⟨i_01 (by omega) (by omega), ?_⟩
    exact hq s0_24 (by omega) (by omega)
  have j_23 : w_X10_isEndless_23 Q := by
    unfold w_X10_isEndless_23
    exact j_24 0 (by omega)
  refine ⟨fun c7 => ?_, fun c7 => ?_⟩
  · have f3 : r2.toInt ≠ 7 := i_ne (a := r2.toInt) (b := 7) rfl rfl c7
    exact j_23  
  · have f4 : r2.toInt = 7 := i_eq (a := r2.toInt) (b := 7) rfl rfl c7
    refine ok_X10_highOf (by omega) (by omega) (fun r12 f5 => ?_)
    refine ⟨fun c16 => ?_, fun c16 => ?_⟩
    · have f6 : r12.toInt ≠ (-1) := i_ne (a := r12.toInt) (b := (-1)) rfl rfl c16
      exact j_23  
    · have f7 : r12.toInt = (-1) := i_eq (a := r12.toInt) (b := (-1)) rfl rfl c16
      exact j_24 1 (by omega)
set_option maxHeartbeats 4000000 in
theorem ok_X10_isWithinCase {p1 : Int32} {v_count : Int32} {v_withinCase : Nat → Bool} {Q : Int32 → Prop} (a0 : 0 ≤ v_count.toInt) (a1 : v_count.toInt ≤ 256) (hq : ∀ (r : Int32), ((r.toInt = 1 ∧ 0 ≤ p1.toInt ∧ p1.toInt + 1 ≤ v_count.toInt) ∨ (r.toInt = 0)) → Q r) : w_X10_isWithinCase p1 v_count v_withinCase Q := by
  have q_t : (bz true).toInt = 1 := rfl
  have q_f : (bz false).toInt = 0 := rfl
  have q_0 : (0 : Int32).toInt = 0 := rfl
  have q_1 : (1 : Int32).toInt = 1 := rfl
  unfold w_X10_isWithinCase
  have j_26 : ∀ (s0_26 : Int32), ((s0_26.toInt = 1 ∧ 0 ≤ p1.toInt ∧ p1.toInt + 1 ≤ v_count.toInt) ∨ (s0_26.toInt = 0)) → w_X10_isWithinCase_26 Q s0_26 := by
    intro s0_26 f1
    unfold w_X10_isWithinCase_26
    refine ⟨i_01 (by omega) (by omega), ?_⟩
    exact hq s0_26 (by omega)
  have j_25 : ((p1.toInt + 1 ≤ 0) ∨ (0 ≤ p1.toInt ∧ v_count.toInt ≤ p1.toInt) ∨ (0 ≤ p1.toInt ∧ p1.toInt + 1 ≤ v_count.toInt)) → w_X10_isWithinCase_25 Q := by
    intro f2
    unfold w_X10_isWithinCase_25
    exact j_26 0 (by omega)
  refine ⟨fun c1 => ?_, fun c1 => ?_⟩
  · have f3 : p1.toInt < 0 := i_lt (a := p1.toInt) (b := 0) rfl rfl c1
    exact j_25  (by omega)
  · have f4 : 0 ≤ p1.toInt := i_nlt (a := p1.toInt) (b := 0) rfl rfl c1
    refine ⟨fun c9 => ?_, fun c9 => ?_⟩
    · have f5 : v_count.toInt ≤ p1.toInt := i_le (a := v_count.toInt) (b := p1.toInt) rfl rfl c9
      exact j_25  (by omega)
    · have f6 : p1.toInt < v_count.toInt := i_nle (a := v_count.toInt) (b := p1.toInt) rfl rfl c9
      refine ⟨i_in (by omega) (by omega), ?_⟩
      intro x17 ex17
      have f7 : (0 ≤ x17.toInt ∧ x17.toInt ≤ 1) := i_bz ex17
      refine ⟨fun c18 => ?_, fun c18 => ?_⟩
      · have f8 : x17.toInt = 0 := i_eq (a := x17.toInt) (b := 0) rfl rfl c18
        exact j_25  (by omega)
      · have f9 : x17.toInt ≠ 0 := i_ne (a := x17.toInt) (b := 0) rfl rfl c18
        exact j_26 1 (by omega)
set_option maxHeartbeats 4000000 in
theorem ok_X10_isMarked {p1 : Int32} {v_count : Int32} {v_marked : Nat → Bool} {Q : Int32 → Prop} (a0 : 0 ≤ v_count.toInt) (a1 : v_count.toInt ≤ 256) (hq : ∀ (r : Int32), ((r.toInt = 1 ∧ 0 ≤ p1.toInt ∧ p1.toInt + 1 ≤ v_count.toInt) ∨ (r.toInt = 0)) → Q r) : w_X10_isMarked p1 v_count v_marked Q := by
  have q_t : (bz true).toInt = 1 := rfl
  have q_f : (bz false).toInt = 0 := rfl
  have q_0 : (0 : Int32).toInt = 0 := rfl
  have q_1 : (1 : Int32).toInt = 1 := rfl
  unfold w_X10_isMarked
  have j_26 : ∀ (s0_26 : Int32), ((s0_26.toInt = 1 ∧ 0 ≤ p1.toInt ∧ p1.toInt + 1 ≤ v_count.toInt) ∨ (s0_26.toInt = 0)) → w_X10_isMarked_26 Q s0_26 := by
    intro s0_26 f1
    unfold w_X10_isMarked_26
    refine ⟨i_01 (by omega) (by omega), ?_⟩
    exact hq s0_26 (by omega)
  have j_25 : ((p1.toInt + 1 ≤ 0) ∨ (0 ≤ p1.toInt ∧ v_count.toInt ≤ p1.toInt) ∨ (0 ≤ p1.toInt ∧ p1.toInt + 1 ≤ v_count.toInt)) → w_X10_isMarked_25 Q := by
    intro f2
    unfold w_X10_isMarked_25
    exact j_26 0 (by omega)
  refine ⟨fun c1 => ?_, fun c1 => ?_⟩
  · have f3 : p1.toInt < 0 := i_lt (a := p1.toInt) (b := 0) rfl rfl c1
    exact j_25  (by omega)
  · have f4 : 0 ≤ p1.toInt := i_nlt (a := p1.toInt) (b := 0) rfl rfl c1
    refine ⟨fun c9 => ?_, fun c9 => ?_⟩
    · have f5 : v_count.toInt ≤ p1.toInt := i_le (a := v_count.toInt) (b := p1.toInt) rfl rfl c9
      exact j_25  (by omega)
    · have f6 : p1.toInt < v_count.toInt := i_nle (a := v_count.toInt) (b := p1.toInt) rfl rfl c9
      refine ⟨i_in (by omega) (by omega), ?_⟩
      intro x17 ex17
      have f7 : (0 ≤ x17.toInt ∧ x17.toInt ≤ 1) := i_bz ex17
      refine ⟨fun c18 => ?_, fun c18 => ?_⟩
      · have f8 : x17.toInt = 0 := i_eq (a := x17.toInt) (b := 0) rfl rfl c18
        exact j_25  (by omega)
      · have f9 : x17.toInt ≠ 0 := i_ne (a := x17.toInt) (b := 0) rfl rfl c18
        exact j_26 1 (by omega)
set_option maxHeartbeats 4000000 in
theorem ok_X10_partBegin {p1 : Int32} {p2 : Int32} {v_count : Int32} {v_ranges : Int32} {v_low : Nat → Int32} {v_rangeBegin : Nat → Int32} {Q : Int32 → Prop} (a0 : 0 ≤ v_count.toInt) (a1 : v_count.toInt ≤ 256) (a2 : 0 ≤ v_ranges.toInt) (a3 : v_ranges.toInt ≤ 512) (hq : ∀ (r : Int32), Q r) : w_X10_partBegin p1 p2 v_count v_ranges v_low v_rangeBegin Q := by
  have q_t : (bz true).toInt = 1 := rfl
  have q_f : (bz false).toInt = 0 := rfl
  have q_0 : (0 : Int32).toInt = 0 := rfl
  unfold w_X10_partBegin
  refine ok_X10_lowOf (by omega) (by omega) (fun r2 f1 => ?_)
  intro x6 ex6
  have j_30 : ∀ (s0_30 : Int32), w_X10_partBegin_30 Q s0_30 := by
    intro s0_30
    unfold w_X10_partBegin_30
    exact hq s0_30 
  have j_29 : w_X10_partBegin_29 Q := by
    unfold w_X10_partBegin_29
    exact j_30 0 
  refine ⟨fun c9 => ?_, fun c9 => ?_⟩
  · have f2 : x6.toInt < 0 := i_lt (a := x6.toInt) (b := 0) rfl rfl c9
    exact j_29  
  · have f3 : 0 ≤ x6.toInt := i_nlt (a := x6.toInt) (b := 0) rfl rfl c9
    refine ⟨fun c17 => ?_, fun c17 => ?_⟩
    · have f4 : v_ranges.toInt ≤ x6.toInt := i_le (a := v_ranges.toInt) (b := x6.toInt) rfl rfl c17
      exact j_29  
    · have f5 : x6.toInt < v_ranges.toInt := i_nle (a := v_ranges.toInt) (b := x6.toInt) rfl rfl c17
      refine ⟨i_in (by omega) (by omega), ?_⟩
      intro x25 ex25
      exact j_30 x25 
set_option maxHeartbeats 4000000 in
theorem ok_X10_partEnd {p1 : Int32} {p2 : Int32} {v_count : Int32} {v_ranges : Int32} {v_low : Nat → Int32} {v_rangeEnd : Nat → Int32} {Q : Int32 → Prop} (a0 : 0 ≤ v_count.toInt) (a1 : v_count.toInt ≤ 256) (a2 : 0 ≤ v_ranges.toInt) (a3 : v_ranges.toInt ≤ 512) (hq : ∀ (r : Int32), Q r) : w_X10_partEnd p1 p2 v_count v_ranges v_low v_rangeEnd Q := by
  have q_t : (bz true).toInt = 1 := rfl
  have q_f : (bz false).toInt = 0 := rfl
  have q_0 : (0 : Int32).toInt = 0 := rfl
  unfold w_X10_partEnd
  refine ok_X10_lowOf (by omega) (by omega) (fun r2 f1 => ?_)
  intro x6 ex6
  have j_30 : ∀ (s0_30 : Int32), w_X10_partEnd_30 Q s0_30 := by
    intro s0_30
    unfold w_X10_partEnd_30
    exact hq s0_30 
  have j_29 : w_X10_partEnd_29 Q := by
    unfold w_X10_partEnd_29
    exact j_30 0 
  refine ⟨fun c9 => ?_, fun c9 => ?_⟩
  · have f2 : x6.toInt < 0 := i_lt (a := x6.toInt) (b := 0) rfl rfl c9
    exact j_29  
  · have f3 : 0 ≤ x6.toInt := i_nlt (a := x6.toInt) (b := 0) rfl rfl c9
    refine ⟨fun c17 => ?_, fun c17 => ?_⟩
    · have f4 : v_ranges.toInt ≤ x6.toInt := i_le (a := v_ranges.toInt) (b := x6.toInt) rfl rfl c17
      exact j_29  
    · have f5 : x6.toInt < v_ranges.toInt := i_nle (a := v_ranges.toInt) (b := x6.toInt) rfl rfl c17
      refine ⟨i_in (by omega) (by omega), ?_⟩
      intro x25 ex25
      exact j_30 x25 
set_option maxHeartbeats 4000000 in
theorem ok_X10_firstOf {p1 : Int32} {v_count : Int32} {v_end : Nat → Int32} {Q : Int32 → Prop} (a0 : 0 ≤ v_count.toInt) (a1 : v_count.toInt ≤ 256) (b0 : rp (fun k v => k < v ∧ v ≤ 256) v_end 0 v_count.toInt) (hq : ∀ (r : Int32), ((0 ≤ p1.toInt ∧ p1.toInt + 1 ≤ v_count.toInt ∧ r.toInt = p1.toInt + 1) ∨ (r.toInt + 1 = 0)) → r.toInt ≤ 255 → Q r) : w_X10_firstOf p1 v_count v_end Q := by
  have q_t : (bz true).toInt = 1 := rfl
  have q_f : (bz false).toInt = 0 := rfl
  have q_m1 : ((-1) : Int32).toInt = (-1) := rfl
  unfold w_X10_firstOf
  have j_31 : ∀ (s0_31 : Int32), ((0 ≤ p1.toInt ∧ p1.toInt + 1 ≤ v_count.toInt ∧ s0_31.toInt = p1.toInt + 1) ∨ (s0_31.toInt + 1 = 0)) → s0_31.toInt ≤ 255 → w_X10_firstOf_31 Q s0_31 := by
    intro s0_31 f1 f2
    unfold w_X10_firstOf_31
    exact hq s0_31 (by omega) (by omega)
  have j_30 : ((p1.toInt + 1 ≤ 0) ∨ (0 ≤ p1.toInt ∧ v_count.toInt ≤ p1.toInt) ∨ (0 ≤ p1.toInt ∧ p1.toInt + 1 ≤ v_count.toInt)) → w_X10_firstOf_30 Q := by
    intro f3
    unfold w_X10_firstOf_30
    exact j_31 (-1) (by omega) (by omega)
  refine ⟨fun c1 => ?_, fun c1 => ?_⟩
  · have f4 : p1.toInt < 0 := i_lt (a := p1.toInt) (b := 0) rfl rfl c1
    exact j_30  (by omega)
  · have f5 : 0 ≤ p1.toInt := i_nlt (a := p1.toInt) (b := 0) rfl rfl c1
    refine ⟨fun c9 => ?_, fun c9 => ?_⟩
    · have f6 : v_count.toInt ≤ p1.toInt := i_le (a := v_count.toInt) (b := p1.toInt) rfl rfl c9
      exact j_30  (by omega)
    · have f7 : p1.toInt < v_count.toInt := i_nle (a := v_count.toInt) (b := p1.toInt) rfl rfl c9
      refine ⟨i_in (by omega) (by omega), ?_⟩
      intro x17 ex17
      have f8 : p1.toInt + 1 ≤ x17.toInt ∧ x17.toInt ≤ 256 := by have h9 := rp_get (P := (fun k v => k < v ∧ v ≤ 256)) (a := p1.toInt) b0 ex17 rfl (by omega) (by omega) (by omega); omega
      intro x20 ex20
      have f9 : x20.toInt = p1.toInt + 1 := i_add (a := p1.toInt) (b := 1) ex20 rfl rfl (by omega) (by omega)
      refine ⟨fun c21 => ?_, fun c21 => ?_⟩
      · have f10 : x17.toInt ≤ x20.toInt := i_le (a := x17.toInt) (b := x20.toInt) rfl rfl c21
        exact j_30  (by omega)
      · have f11 : x20.toInt < x17.toInt := i_nle (a := x17.toInt) (b := x20.toInt) rfl rfl c21
        intro x26 ex26
        have f12 : x26.toInt = p1.toInt + 1 := i_add (a := p1.toInt) (b := 1) ex26 rfl rfl (by omega) (by omega)
        exact j_31 x26 (by omega) (by omega)
set_option maxHeartbeats 4000000 in
theorem ok_X10_nextOf {p1 : Int32} {v_count : Int32} {v_holder : Nat → Int32} {v_end : Nat → Int32} {Q : Int32 → Prop} (a0 : 0 ≤ v_count.toInt) (a1 : v_count.toInt ≤ 256) (b0 : rp (fun k v => k < v ∧ v ≤ 256) v_end 0 v_count.toInt) (b1 : rp (fun k v => v < k ∧ -1 ≤ v) v_holder 0 v_count.toInt) (hq : ∀ (r : Int32), r.toInt ≤ 255 → ((r.toInt + 1 = 0) ∨ (p1.toInt + 1 ≤ r.toInt)) → 0 ≤ r.toInt + 1 → Q r) : w_X10_nextOf p1 v_count v_holder v_end Q := by
  have q_t : (bz true).toInt = 1 := rfl
  have q_f : (bz false).toInt = 0 := rfl
  have q_m1 : ((-1) : Int32).toInt = (-1) := rfl
  unfold w_X10_nextOf
  have j_22 : ∀ (s0_22 : Int32), ((0 ≤ p1.toInt ∧ p1.toInt + 1 ≤ v_count.toInt ∧ s0_22.toInt + 1 ≤ p1.toInt ∧ 0 ≤ s0_22.toInt + 1) ∨ (s0_22.toInt + 1 = 0)) → w_X10_nextOf_22 p1 v_count v_end Q s0_22 := by
    intro s0_22 f1
    unfold w_X10_nextOf_22
    have j_60 : ∀ (s0_60 : Int32), ((0 ≤ s0_22.toInt ∧ s0_22.toInt + 1 ≤ v_count.toInt ∧ p1.toInt + 1 ≤ s0_60.toInt ∧ s0_60.toInt ≤ 256) ∨ (s0_60.toInt + 1 = 0)) → s0_60.toInt ≤ 255 → w_X10_nextOf_60 Q s0_60 := by
      intro s0_60 f2 f3
      unfold w_X10_nextOf_60
      exact hq s0_60 (by omega) (by omega) (by omega)
    have j_59 : ((s0_22.toInt + 1 ≤ 0) ∨ (0 ≤ s0_22.toInt ∧ s0_22.toInt + 1 ≤ v_count.toInt)) → w_X10_nextOf_59 Q := by
      intro f4
      unfold w_X10_nextOf_59
      exact j_60 (-1) (by omega) (by omega)
    refine ⟨fun c24 => ?_, fun c24 => ?_⟩
    · have f5 : s0_22.toInt < 0 := i_lt (a := s0_22.toInt) (b := 0) rfl rfl c24
      exact j_59  (by omega)
    · have f6 : 0 ≤ s0_22.toInt := i_nlt (a := s0_22.toInt) (b := 0) rfl rfl c24
      refine ⟨fun c32 => ?_, fun c32 => ?_⟩
      · have f7 : v_count.toInt ≤ s0_22.toInt := i_le (a := v_count.toInt) (b := s0_22.toInt) rfl rfl c32
        exfalso; omega
      · have f8 : s0_22.toInt < v_count.toInt := i_nle (a := v_count.toInt) (b := s0_22.toInt) rfl rfl c32
        refine ⟨i_in (by omega) (by omega), ?_⟩
        intro x40 ex40
        have f9 : p1.toInt + 1 ≤ x40.toInt ∧ x40.toInt ≤ 256 := by have h9 := rp_get (P := (fun k v => k < v ∧ v ≤ 256)) (a := p1.toInt) b0 ex40 rfl (by omega) (by omega) (by omega); omega
        refine ⟨i_in (by omega) (by omega), ?_⟩
        intro x46 ex46
        have f10 : s0_22.toInt + 1 ≤ x46.toInt ∧ x46.toInt ≤ 256 := by have h9 := rp_get (P := (fun k v => k < v ∧ v ≤ 256)) (a := s0_22.toInt) b0 ex46 rfl (by omega) (by omega) (by omega); omega
        refine ⟨fun c47 => ?_, fun c47 => ?_⟩
        · have f11 : x46.toInt ≤ x40.toInt := i_le (a := x46.toInt) (b := x40.toInt) rfl rfl c47
          exact j_59  (by omega)
        · have f12 : x40.toInt < x46.toInt := i_nle (a := x46.toInt) (b := x40.toInt) rfl rfl c47
          refine ⟨i_in (by omega) (by omega), ?_⟩
          intro x55 ex55
          have f13 : x55.toInt = x40.toInt := congrArg Int32.toInt (ex55.trans ex40.symm)
          have f14 : p1.toInt + 1 ≤ x55.toInt ∧ x55.toInt ≤ 256 := by have h9 := rp_get (P := (fun k v => k < v ∧ v ≤ 256)) (a := p1.toInt) b0 ex55 rfl (by omega) (by omega) (by omega); omega
          exact j_60 x55 (by omega) (by omega)
  have j_21 : ((p1.toInt + 1 ≤ 0) ∨ (0 ≤ p1.toInt ∧ v_count.toInt ≤ p1.toInt)) → w_X10_nextOf_21 p1 v_count v_end Q := by
    intro f15
    unfold w_X10_nextOf_21
    exact j_22 (-1) (by omega)
  refine ⟨fun c1 => ?_, fun c1 => ?_⟩
  · have f16 : p1.toInt < 0 := i_lt (a := p1.toInt) (b := 0) rfl rfl c1
    exact j_21  (by omega)
  · have f17 : 0 ≤ p1.toInt := i_nlt (a := p1.toInt) (b := 0) rfl rfl c1
    refine ⟨fun c9 => ?_, fun c9 => ?_⟩
    · have f18 : v_count.toInt ≤ p1.toInt := i_le (a := v_count.toInt) (b := p1.toInt) rfl rfl c9
      exact j_21  (by omega)
    · have f19 : p1.toInt < v_count.toInt := i_nle (a := v_count.toInt) (b := p1.toInt) rfl rfl c9
      refine ⟨i_in (by omega) (by omega), ?_⟩
      intro x17 ex17
      have f20 : x17.toInt + 1 ≤ p1.toInt ∧ 0 ≤ x17.toInt + 1 := by have h9 := rp_get (P := (fun k v => v < k ∧ -1 ≤ v)) (a := p1.toInt) b1 ex17 rfl (by omega) (by omega) (by omega); omega
      exact j_22 x17 (by omega)
set_option maxHeartbeats 4000000 in
theorem ok_X10_somePartIsMarked {p1 : Int32} {v_count : Int32} {v_holder : Nat → Int32} {v_end : Nat → Int32} {v_marked : Nat → Bool} {Q : Int32 → Prop} (a0 : 0 ≤ v_count.toInt) (a1 : v_count.toInt ≤ 256) (b0 : rp (fun k v => k < v ∧ v ≤ 256) v_end 0 v_count.toInt) (b1 : rp (fun k v => v < k ∧ -1 ≤ v) v_holder 0 v_count.toInt) (hq : ∀ (r : Int32), ((r.toInt = 0) ∨ (r.toInt = 1)) → Q r) : w_X10_somePartIsMarked p1 v_count v_holder v_end v_marked Q := by
  have q_t : (bz true).toInt = 1 := rfl
  have q_f : (bz false).toInt = 0 := rfl
  have q_0 : (0 : Int32).toInt = 0 := rfl
  have q_1 : (1 : Int32).toInt = 1 := rfl
  unfold w_X10_somePartIsMarked
  refine ok_X10_firstOf (by omega) (by omega) (rp_mono b0 (by omega) (by omega)) (fun r2 f1 f2 => ?_)
  have j_6 : ∀ n_6 : Nat, ∀ (l2_6 : Int32), 0 ≤ l2_6.toInt + 1 → l2_6.toInt ≤ 255 → (1 ≤ n_6 ∧ (l2_6.toInt + 1 ≤ 0 ∨ (-1) * l2_6.toInt + 2147483648 ≤ (n_6 : Int))) → w_X10_somePartIsMarked_6 v_count v_holder v_end v_marked Q n_6 l2_6 := by
    intro n_6
    induction n_6 with
    | zero =>
      intro l2_6 f3 f4 hm_6
      exfalso; omega
    | succ n_6 ih_6 =>
      intro l2_6 f3 f4 hm_6
      unfold w_X10_somePartIsMarked_6
      unfold w_X10_somePartIsMarked_6B
      refine ok_X10_has (by omega) (by omega) (fun r8 f5 => ?_)
      refine ⟨fun c11 => ?_, fun c11 => ?_⟩
      · have f6 : r8.toInt = 0 := i_eq (a := r8.toInt) (b := 0) rfl rfl c11
        exact hq 0 (by omega)
      · have f7 : r8.toInt ≠ 0 := i_ne (a := r8.toInt) (b := 0) rfl rfl c11
        refine ⟨i_in (by omega) (by omega), ?_⟩
        intro x19 ex19
        have f8 : (0 ≤ x19.toInt ∧ x19.toInt ≤ 1) := i_bz ex19
        refine ⟨fun c20 => ?_, fun c20 => ?_⟩
        · have f9 : x19.toInt = 0 := i_eq (a := x19.toInt) (b := 0) rfl rfl c20
          refine ok_X10_nextOf (by omega) (by omega) (rp_mono b0 (by omega) (by omega)) (rp_mono b1 (by omega) (by omega)) (fun r27 f10 f11 f12 => ?_)
          exact ih_6 r27 (by omega) (by omega) (by have h8_0 := i_rng l2_6; have h8_1 := i_rng r27; omega)
        · have f13 : x19.toInt ≠ 0 := i_ne (a := x19.toInt) (b := 0) rfl rfl c20
          exact hq 1 (by omega)
  exact ⟨((-1) * r2.toInt + 2147483648).toNat + 1, j_6   (((-1) * r2.toInt + 2147483648).toNat + 1) r2 (by omega) (by omega) (by omega)⟩
set_option maxHeartbeats 4000000 in
theorem ok_X10_rowBegins {p1 : Int32} {v_count : Int32} {v_holder : Nat → Int32} {v_end : Nat → Int32} {v_mayBeEmpty : Nat → Bool} {v_marked : Nat → Bool} {Q : Int32 → Prop} (a0 : 0 ≤ v_count.toInt) (a1 : v_count.toInt ≤ 256) (b0 : rp (fun k v => k < v ∧ v ≤ 256) v_end 0 v_count.toInt) (b1 : rp (fun k v => v < k ∧ -1 ≤ v) v_holder 0 v_count.toInt) (hq : ∀ (r : Int32), ((r.toInt = 0) ∨ (0 ≤ r.toInt ∧ r.toInt ≤ 1)) → Q r) : w_X10_rowBegins p1 v_count v_holder v_end v_mayBeEmpty v_marked Q := by
  have q_t : (bz true).toInt = 1 := rfl
  have q_f : (bz false).toInt = 0 := rfl
  have q_0 : (0 : Int32).toInt = 0 := rfl
  unfold w_X10_rowBegins
  refine ok_X10_firstOf (by omega) (by omega) (rp_mono b0 (by omega) (by omega)) (fun r2 f1 f2 => ?_)
  have j_6 : ∀ n_6 : Nat, ∀ (l2_6 : Int32), 0 ≤ l2_6.toInt + 1 → l2_6.toInt ≤ 255 → (1 ≤ n_6 ∧ (l2_6.toInt + 1 ≤ 0 ∨ (-1) * l2_6.toInt + 2147483648 ≤ (n_6 : Int))) → w_X10_rowBegins_6 v_count v_holder v_end v_mayBeEmpty v_marked Q n_6 l2_6 := by
    intro n_6
    induction n_6 with
    | zero =>
      intro l2_6 f3 f4 hm_6
      exfalso; omega
    | succ n_6 ih_6 =>
      intro l2_6 f3 f4 hm_6
      unfold w_X10_rowBegins_6
      unfold w_X10_rowBegins_6B
      refine ok_X10_has (by omega) (by omega) (fun r8 f5 => ?_)
      refine ⟨fun c11 => ?_, fun c11 => ?_⟩
      · have f6 : r8.toInt = 0 := i_eq (a := r8.toInt) (b := 0) rfl rfl c11
        exact hq 0 (by omega)
      · have f7 : r8.toInt ≠ 0 := i_ne (a := r8.toInt) (b := 0) rfl rfl c11
        refine ⟨i_in (by omega) (by omega), ?_⟩
        intro x19 ex19
        have f8 : (0 ≤ x19.toInt ∧ x19.toInt ≤ 1) := i_bz ex19
        have j_32 : w_X10_rowBegins_32 v_marked Q l2_6 := by
          unfold w_X10_rowBegins_32
          refine ⟨i_in (by omega) (by omega), ?_⟩
          intro x37 ex37
          have f9 : (0 ≤ x37.toInt ∧ x37.toInt ≤ 1) := i_bz ex37
          refine ⟨i_01 (by omega) (by omega), ?_⟩
          exact hq x37 (by omega)
        refine ⟨fun c20 => ?_, fun c20 => ?_⟩
        · have f10 : x19.toInt ≠ 0 := i_ne (a := x19.toInt) (b := 0) rfl rfl c20
          exact j_32  
        · have f11 : x19.toInt = 0 := i_eq (a := x19.toInt) (b := 0) rfl rfl c20
          refine ⟨i_in (by omega) (by omega), ?_⟩
          intro x28 ex28
          have f12 : (0 ≤ x28.toInt ∧ x28.toInt ≤ 1) := i_bz ex28
          refine ⟨fun c29 => ?_, fun c29 => ?_⟩
          · have f13 : x28.toInt ≠ 0 := i_ne (a := x28.toInt) (b := 0) rfl rfl c29
            refine ok_X10_nextOf (by omega) (by omega) (rp_mono b0 (by omega) (by omega)) (rp_mono b1 (by omega) (by omega)) (fun r41 f14 f15 f16 => ?_)
            exact ih_6 r41 (by omega) (by omega) (by have h8_0 := i_rng l2_6; have h8_1 := i_rng r41; omega)
          · have f17 : x28.toInt = 0 := i_eq (a := x28.toInt) (b := 0) rfl rfl c29
            exact j_32  
  exact ⟨((-1) * r2.toInt + 2147483648).toNat + 1, j_6   (((-1) * r2.toInt + 2147483648).toNat + 1) r2 (by omega) (by omega) (by omega)⟩
set_option maxHeartbeats 4000000 in
theorem ok_X10_hasInParts {p1 : Int32} {p2 : Int32} {v_count : Int32} {v_ranges : Int32} {v_low : Nat → Int32} {v_high : Nat → Int32} {v_rangeBegin : Nat → Int32} {v_rangeEnd : Nat → Int32} {Q : Int32 → Prop} (a0 : 0 ≤ v_count.toInt) (a1 : v_count.toInt ≤ 256) (a2 : 0 ≤ v_ranges.toInt) (a3 : v_ranges.toInt ≤ 512) (hq : ∀ (r : Int32), ((r.toInt = 1 ∧ 0 ≤ p1.toInt ∧ p1.toInt + 1 ≤ v_count.toInt) ∨ (r.toInt = 0 ∧ 0 ≤ p1.toInt ∧ p1.toInt + 1 ≤ v_count.toInt) ∨ (r.toInt = 0)) → Q r) : w_X10_hasInParts p1 p2 v_count v_ranges v_low v_high v_rangeBegin v_rangeEnd Q := by
  have q_t : (bz true).toInt = 1 := rfl
  have q_f : (bz false).toInt = 0 := rfl
  have q_0 : (0 : Int32).toInt = 0 := rfl
  have q_1 : (1 : Int32).toInt = 1 := rfl
  unfold w_X10_hasInParts
  have j_12 : ((p1.toInt + 1 ≤ 0) ∨ (0 ≤ p1.toInt ∧ v_count.toInt ≤ p1.toInt)) → w_X10_hasInParts_12 Q := by
    intro f1
    unfold w_X10_hasInParts_12
    exact hq 0 (by omega)
  refine ⟨fun c1 => ?_, fun c1 => ?_⟩
  · have f2 : p1.toInt < 0 := i_lt (a := p1.toInt) (b := 0) rfl rfl c1
    exact j_12  (by omega)
  · have f3 : 0 ≤ p1.toInt := i_nlt (a := p1.toInt) (b := 0) rfl rfl c1
    refine ⟨fun c9 => ?_, fun c9 => ?_⟩
    · have f4 : p1.toInt < v_count.toInt := i_lt (a := p1.toInt) (b := v_count.toInt) rfl rfl c9
      refine ⟨i_in (by omega) (by omega), ?_⟩
      intro x19 ex19
      have j_21 : ∀ n_21 : Nat, ∀ (l3_21 : Int32), x19.toInt ≤ l3_21.toInt → ((-1) * l3_21.toInt + 2147483648).toNat < n_21 → w_X10_hasInParts_21 p1 p2 v_ranges v_low v_high v_rangeBegin v_rangeEnd Q n_21 l3_21 := by
        intro n_21
        induction n_21 with
        | zero =>
          intro l3_21 f5 hm_21
          exfalso; omega
        | succ n_21 ih_21 =>
          intro l3_21 f5 hm_21
          unfold w_X10_hasInParts_21
          unfold w_X10_hasInParts_21B
          have j_78 : ((l3_21.toInt + 1 ≤ 0) ∨ (0 ≤ l3_21.toInt) ∨ (0 ≤ l3_21.toInt ∧ v_ranges.toInt ≤ l3_21.toInt)) → w_X10_hasInParts_78 Q := by
            intro f6
            unfold w_X10_hasInParts_78
            exact hq 0 (by omega)
          refine ⟨fun c22 => ?_, fun c22 => ?_⟩
          · have f7 : l3_21.toInt < 0 := i_lt (a := l3_21.toInt) (b := 0) rfl rfl c22
            exact j_78  (by omega)
          · have f8 : 0 ≤ l3_21.toInt := i_nlt (a := l3_21.toInt) (b := 0) rfl rfl c22
            refine ⟨i_in (by omega) (by omega), ?_⟩
            intro x31 ex31
            have f9 : x31.toInt = x19.toInt := congrArg Int32.toInt (ex31.trans ex19.symm)
            refine ⟨i_in (by omega) (by omega), ?_⟩
            intro x37 ex37
            intro x38 ex38
            refine ⟨fun c39 => ?_, fun c39 => ?_⟩
            · have f10 : x38.toInt ≤ l3_21.toInt := i_le (a := x38.toInt) (b := l3_21.toInt) rfl rfl c39
              exact j_78  (by omega)
            · have f11 : l3_21.toInt < x38.toInt := i_nle (a := x38.toInt) (b := l3_21.toInt) rfl rfl c39
              refine ⟨fun c47 => ?_, fun c47 => ?_⟩
              · have f12 : v_ranges.toInt ≤ l3_21.toInt := i_le (a := v_ranges.toInt) (b := l3_21.toInt) rfl rfl c47
                exact j_78  (by omega)
              · have f13 : l3_21.toInt < v_ranges.toInt := i_nle (a := v_ranges.toInt) (b := l3_21.toInt) rfl rfl c47
                refine ⟨i_in (by omega) (by omega), ?_⟩
                intro x55 ex55
                have j_72 : w_X10_hasInParts_72 Q (w_X10_hasInParts_21 p1 p2 v_ranges v_low v_high v_rangeBegin v_rangeEnd Q n_21) l3_21 := by
                  unfold w_X10_hasInParts_72
                  intro x72 ex72
                  have f14 : x72.toInt = l3_21.toInt + 1 := i_add (a := l3_21.toInt) (b := 1) ex72 rfl rfl (by omega) (by omega)
                  exact ih_21 x72 (by omega) (by have h8_0 := i_rng l3_21; have h8_1 := i_rng x72; omega)
                refine ⟨fun c57 => ?_, fun c57 => ?_⟩
                · have f15 : p2.toInt < x55.toInt := i_lt (a := p2.toInt) (b := x55.toInt) rfl rfl c57
                  exact j_72  
                · have f16 : x55.toInt ≤ p2.toInt := i_nlt (a := p2.toInt) (b := x55.toInt) rfl rfl c57
                  refine ⟨i_in (by omega) (by omega), ?_⟩
                  intro x66 ex66
                  refine ⟨fun c67 => ?_, fun c67 => ?_⟩
                  · have f17 : x66.toInt < p2.toInt := i_lt (a := x66.toInt) (b := p2.toInt) rfl rfl c67
                    exact j_72  
                  · have f18 : p2.toInt ≤ x66.toInt := i_nlt (a := x66.toInt) (b := p2.toInt) rfl rfl c67
                    exact hq 1 (by omega)
      exact ⟨((-1) * x19.toInt + 2147483648).toNat + 1, j_21   (((-1) * x19.toInt + 2147483648).toNat + 1) x19 (by omega) (by omega)⟩
    · have f19 : v_count.toInt ≤ p1.toInt := i_nlt (a := p1.toInt) (b := v_count.toInt) rfl rfl c9
      exact j_12  (by omega)
set_option maxHeartbeats 4000000 in
theorem ok_X11_otherCase {p0 : Int32} {Q : Int32 → Prop} (hq : ∀ (r : Int32), Q r) : w_X11_otherCase p0 Q := by
  have q_t : (bz true).toInt = 1 := rfl
  have q_f : (bz false).toInt = 0 := rfl
  unfold w_X11_otherCase
  intro x3 ex3
  have j_25 : ∀ (s0_25 : Int32), w_X11_otherCase_25 Q s0_25 := by
    intro s0_25
    unfold w_X11_otherCase_25
    exact hq s0_25 
  have j_24 : w_X11_otherCase_24 p0 Q := by
    unfold w_X11_otherCase_24
    exact j_25 p0 
  refine ⟨fun c8 => ?_, fun c8 => ?_⟩
  · have f1 : x3.toInt < 97 := i_lt (a := x3.toInt) (b := 97) rfl rfl c8
    exact j_24  
  · have f2 : 97 ≤ x3.toInt := i_nlt (a := x3.toInt) (b := 97) rfl rfl c8
    refine ⟨fun c14 => ?_, fun c14 => ?_⟩
    · have f3 : 122 < x3.toInt := i_lt (a := 122) (b := x3.toInt) rfl rfl c14
      exact j_24  
    · have f4 : x3.toInt ≤ 122 := i_nlt (a := 122) (b := x3.toInt) rfl rfl c14
      intro x20 ex20
      exact j_25 x20 
set_option maxHeartbeats 4000000 in
theorem ok_X10_takes {p1 : Int32} {p2 : Int32} {v_count : Int32} {v_ranges : Int32} {v_sort : Nat → Int32} {v_value : Nat → Int32} {v_low : Nat → Int32} {v_high : Nat → Int32} {v_withinCase : Nat → Bool} {v_rangeBegin : Nat → Int32} {v_rangeEnd : Nat → Int32} {Q : Int32 → Prop} (a0 : 0 ≤ v_count.toInt) (a1 : v_count.toInt ≤ 256) (a2 : 0 ≤ v_ranges.toInt) (a3 : v_ranges.toInt ≤ 512) (hq : ∀ (r : Int32), 0 ≤ r.toInt → r.toInt ≤ 1 → Q r) : w_X10_takes p1 p2 v_count v_ranges v_sort v_value v_low v_high v_withinCase v_rangeBegin v_rangeEnd Q := by
  have q_t : (bz true).toInt = 1 := rfl
  have q_f : (bz false).toInt = 0 := rfl
  have q_0 : (0 : Int32).toInt = 0 := rfl
  have q_1 : (1 : Int32).toInt = 1 := rfl
  unfold w_X10_takes
  refine ok_X10_sortOf (by omega) (by omega) (fun r2 f1 => ?_)
  refine ⟨fun c5_0 => ?_, fun c5_1 => ?_, fun c5_2 => ?_, ?_⟩
  · have f2 : r2.toInt = 0 := i_eq (a := r2.toInt) (b := 0) rfl rfl c5_0
    refine ok_X10_valueOf (by omega) (by omega) (fun r35 f3 => ?_)
    have j_66 : ∀ (s0_66 : Int32), ((s0_66.toInt = 0) ∨ (s0_66.toInt = 1)) → w_X10_takes_66 Q s0_66 := by
      intro s0_66 f4
      unfold w_X10_takes_66
      refine ⟨i_01 (by omega) (by omega), ?_⟩
      exact hq s0_66 (by omega) (by omega)
    have j_61 : w_X10_takes_61 Q := by
      unfold w_X10_takes_61
      exact j_66 1 (by omega)
    refine ⟨fun c38 => ?_, fun c38 => ?_⟩
    · have f5 : p2.toInt = r35.toInt := i_eq (a := p2.toInt) (b := r35.toInt) rfl rfl c38
      exact j_61  
    · have f6 : p2.toInt ≠ r35.toInt := i_ne (a := p2.toInt) (b := r35.toInt) rfl rfl c38
      refine ok_X10_isWithinCase (by omega) (by omega) (fun r43 f7 => ?_)
      have j_65 : w_X10_takes_65 Q := by
        unfold w_X10_takes_65
        exact j_66 0 (by omega)
      refine ⟨fun c46 => ?_, fun c46 => ?_⟩
      · have f8 : r43.toInt = 0 := i_eq (a := r43.toInt) (b := 0) rfl rfl c46
        exact j_65  
      · have f9 : r43.toInt ≠ 0 := i_ne (a := r43.toInt) (b := 0) rfl rfl c46
        refine ok_X11_otherCase  (fun r50 => ?_)
        refine ok_X10_valueOf (by omega) (by omega) (fun r55 f10 => ?_)
        refine ⟨fun c58 => ?_, fun c58 => ?_⟩
        · have f11 : r50.toInt ≠ r55.toInt := i_ne (a := r50.toInt) (b := r55.toInt) rfl rfl c58
          exact j_65  
        · have f12 : r50.toInt = r55.toInt := i_eq (a := r50.toInt) (b := r55.toInt) rfl rfl c58
          exact j_61  
  · have f13 : r2.toInt = 1 := i_eq (a := r2.toInt) (b := 1) rfl rfl c5_1
    have j_78 : ∀ (s0_78 : Int32), ((s0_78.toInt = 0 ∧ p2.toInt = 10) ∨ (s0_78.toInt = 1)) → w_X10_takes_78 Q s0_78 := by
      intro s0_78 f14
      unfold w_X10_takes_78
      refine ⟨i_01 (by omega) (by omega), ?_⟩
      exact hq s0_78 (by omega) (by omega)
    refine ⟨fun c70 => ?_, fun c70 => ?_⟩
    · have f15 : p2.toInt = 10 := i_eq (a := p2.toInt) (b := 10) rfl rfl c70
      exact j_78 0 (by omega)
    · have f16 : p2.toInt ≠ 10 := i_ne (a := p2.toInt) (b := 10) rfl rfl c70
      exact j_78 1 (by omega)
  · have f17 : r2.toInt = 2 := i_eq (a := r2.toInt) (b := 2) rfl rfl c5_2
    refine ok_X10_hasInParts (by omega) (by omega) (by omega) (by omega) (fun r82 f18 => ?_)
    have j_113 : ∀ (s0_113 : Int32), ((s0_113.toInt = 0 ∧ r82.toInt = 0) ∨ (s0_113.toInt = 1)) → w_X10_takes_113 p1 v_count v_value Q s0_113 := by
      intro s0_113 f19
      unfold w_X10_takes_113
      refine ok_X10_valueOf (by omega) (by omega) (fun r117 f20 => ?_)
      have j_128 : ∀ (s0_128 : Int32), ((s0_128.toInt = 0) ∨ (s0_128.toInt = 1 ∧ r117.toInt = 0)) → w_X10_takes_128 Q s0_128 s0_113 := by
        intro s0_128 f21
        unfold w_X10_takes_128
        have j_136 : ∀ (s0_136 : Int32), ((s0_136.toInt = 0) ∨ (s0_136.toInt = 1 ∧ s0_113.toInt = s0_128.toInt)) → w_X10_takes_136 Q s0_136 := by
          intro s0_136 f22
          unfold w_X10_takes_136
          refine ⟨i_01 (by omega) (by omega), ?_⟩
          exact hq s0_136 (by omega) (by omega)
        refine ⟨fun c128 => ?_, fun c128 => ?_⟩
        · have f23 : s0_113.toInt ≠ s0_128.toInt := i_ne (a := s0_113.toInt) (b := s0_128.toInt) rfl rfl c128
          exact j_136 0 (by omega)
        · have f24 : s0_113.toInt = s0_128.toInt := i_eq (a := s0_113.toInt) (b := s0_128.toInt) rfl rfl c128
          exact j_136 1 (by omega)
      refine ⟨fun c120 => ?_, fun c120 => ?_⟩
      · have f25 : r117.toInt ≠ 0 := i_ne (a := r117.toInt) (b := 0) rfl rfl c120
        exact j_128 0 (by omega)
      · have f26 : r117.toInt = 0 := i_eq (a := r117.toInt) (b := 0) rfl rfl c120
        exact j_128 1 (by omega)
    have j_108 : w_X10_takes_108 p1 v_count v_value Q := by
      unfold w_X10_takes_108
      exact j_113 1 (by omega)
    refine ⟨fun c85 => ?_, fun c85 => ?_⟩
    · have f27 : r82.toInt ≠ 0 := i_ne (a := r82.toInt) (b := 0) rfl rfl c85
      exact j_108  
    · have f28 : r82.toInt = 0 := i_eq (a := r82.toInt) (b := 0) rfl rfl c85
      refine ok_X10_isWithinCase (by omega) (by omega) (fun r90 f29 => ?_)
      have j_112 : w_X10_takes_112 p1 v_count v_value Q := by
        unfold w_X10_takes_112
        exact j_113 0 (by omega)
      refine ⟨fun c93 => ?_, fun c93 => ?_⟩
      · have f30 : r90.toInt = 0 := i_eq (a := r90.toInt) (b := 0) rfl rfl c93
        exact j_112  
      · have f31 : r90.toInt ≠ 0 := i_ne (a := r90.toInt) (b := 0) rfl rfl c93
        refine ok_X11_otherCase  (fun r99 => ?_)
        refine ok_X10_hasInParts (by omega) (by omega) (by omega) (by omega) (fun r102 f32 => ?_)
        refine ⟨fun c105 => ?_, fun c105 => ?_⟩
        · have f33 : r102.toInt = 0 := i_eq (a := r102.toInt) (b := 0) rfl rfl c105
          exact j_112  
        · have f34 : r102.toInt ≠ 0 := i_ne (a := r102.toInt) (b := 0) rfl rfl c105
          exact j_108  
  · intro c5_0 c5_1 c5_2
    have f35 : r2.toInt ≠ 0 := i_ne (a := r2.toInt) (b := 0) rfl rfl c5_0
    have f36 : r2.toInt ≠ 1 := i_ne (a := r2.toInt) (b := 1) rfl rfl c5_1
    have f37 : r2.toInt ≠ 2 := i_ne (a := r2.toInt) (b := 2) rfl rfl c5_2
    exact hq 0 (by omega) (by omega)
set_option maxHeartbeats 4000000 in
theorem ok_X10_beginsWith {p1 : Int32} {p2 : Int32} {v_count : Int32} {v_ranges : Int32} {v_sort : Nat → Int32} {v_holder : Nat → Int32} {v_end : Nat → Int32} {v_value : Nat → Int32} {v_low : Nat → Int32} {v_high : Nat → Int32} {v_mayBeEmpty : Nat → Bool} {v_withinCase : Nat → Bool} {v_marked : Nat → Bool} {v_rangeBegin : Nat → Int32} {v_rangeEnd : Nat → Int32} {Q : Int32 → Prop} (a0 : 0 ≤ v_count.toInt) (a1 : v_count.toInt ≤ 256) (a2 : 0 ≤ v_ranges.toInt) (a3 : v_ranges.toInt ≤ 512) (b0 : rp (fun k v => k < v ∧ v ≤ 256) v_end 0 v_count.toInt) (b1 : rp (fun k v => v < k ∧ -1 ≤ v) v_holder 0 v_count.toInt) (hq : ∀ (r : Int32), 0 ≤ r.toInt → r.toInt ≤ 1 → Q r) : w_X10_beginsWith p1 p2 v_count v_ranges v_sort v_holder v_end v_value v_low v_high v_mayBeEmpty v_withinCase v_marked v_rangeBegin v_rangeEnd Q := by
  have q_t : (bz true).toInt = 1 := rfl
  have q_f : (bz false).toInt = 0 := rfl
  have q_0 : (0 : Int32).toInt = 0 := rfl
  have q_1 : (1 : Int32).toInt = 1 := rfl
  unfold w_X10_beginsWith
  refine ok_X10_sortOf (by omega) (by omega) (fun r2 f1 => ?_)
  have j_60 : ((r2.toInt = 0) ∨ (r2.toInt = 1) ∨ (r2.toInt = 2)) → w_X10_beginsWith_60 p1 p2 v_count v_ranges v_sort v_value v_low v_high v_withinCase v_rangeBegin v_rangeEnd Q := by
    intro f2
    unfold w_X10_beginsWith_60
    refine ok_X10_takes (by omega) (by omega) (by omega) (by omega) (fun r63 f3 f4 => ?_)
    refine ⟨i_01 (by omega) (by omega), ?_⟩
    exact hq r63 (by omega) (by omega)
  have j_69 : ((r2.toInt = 3) ∨ (r2.toInt = 9)) → w_X10_beginsWith_69 Q := by
    intro f5
    unfold w_X10_beginsWith_69
    exact hq 0 (by omega) (by omega)
  have j_103 : r2.toInt ≠ 0 → r2.toInt ≠ 1 → r2.toInt ≠ 2 → r2.toInt ≠ 3 → r2.toInt ≠ 4 → r2.toInt ≠ 5 → r2.toInt ≠ 7 → r2.toInt ≠ 9 → w_X10_beginsWith_103 p1 v_count v_holder v_end v_marked Q := by
    intro f6 f7 f8 f9 f10 f11 f12 f13
    unfold w_X10_beginsWith_103
    refine ok_X10_somePartIsMarked (by omega) (by omega) (rp_mono b0 (by omega) (by omega)) (rp_mono b1 (by omega) (by omega)) (fun r105 f14 => ?_)
    refine ⟨i_01 (by omega) (by omega), ?_⟩
    exact hq r105 (by omega) (by omega)
  refine ⟨fun c5_0 => ?_, fun c5_1 => ?_, fun c5_2 => ?_, fun c5_3 => ?_, fun c5_4 => ?_, fun c5_5 => ?_, fun c5_6 => ?_, fun c5_7 => ?_, ?_⟩
  · have f15 : r2.toInt = 0 := i_eq (a := r2.toInt) (b := 0) rfl rfl c5_0
    exact j_60  (by omega)
  · have f16 : r2.toInt = 1 := i_eq (a := r2.toInt) (b := 1) rfl rfl c5_1
    exact j_60  (by omega)
  · have f17 : r2.toInt = 2 := i_eq (a := r2.toInt) (b := 2) rfl rfl c5_2
    exact j_60  (by omega)
  · have f18 : r2.toInt = 3 := i_eq (a := r2.toInt) (b := 3) rfl rfl c5_3
    exact j_69  (by omega)
  · have f19 : r2.toInt = 4 := i_eq (a := r2.toInt) (b := 4) rfl rfl c5_4
    exact hq 1 (by omega) (by omega)
  · have f20 : r2.toInt = 5 := i_eq (a := r2.toInt) (b := 5) rfl rfl c5_5
    refine ok_X10_rowBegins (by omega) (by omega) (rp_mono b0 (by omega) (by omega)) (rp_mono b1 (by omega) (by omega)) (fun r73 f21 => ?_)
    refine ⟨i_01 (by omega) (by omega), ?_⟩
    exact hq r73 (by omega) (by omega)
  · have f22 : r2.toInt = 7 := i_eq (a := r2.toInt) (b := 7) rfl rfl c5_6
    refine ok_X10_highOf (by omega) (by omega) (fun r79 f23 => ?_)
    have j_102 : ∀ (s0_102 : Int32), ((s0_102.toInt = 1) ∨ (s0_102.toInt = 0)) → w_X10_beginsWith_102 Q s0_102 := by
      intro s0_102 f24
      unfold w_X10_beginsWith_102
      refine ⟨i_01 (by omega) (by omega), ?_⟩
      exact hq s0_102 (by omega) (by omega)
    have j_101 : w_X10_beginsWith_101 Q := by
      unfold w_X10_beginsWith_101
      exact j_102 0 (by omega)
    refine ⟨fun c82 => ?_, fun c82 => ?_⟩
    · have f25 : r79.toInt = 0 := i_eq (a := r79.toInt) (b := 0) rfl rfl c82
      exact j_101  
    · have f26 : r79.toInt ≠ 0 := i_ne (a := r79.toInt) (b := 0) rfl rfl c82
      refine ok_X10_firstOf (by omega) (by omega) (rp_mono b0 (by omega) (by omega)) (fun r88 f27 f28 => ?_)
      refine ok_X10_isMarked (by omega) (by omega) (fun r91 f29 => ?_)
      refine ⟨fun c94 => ?_, fun c94 => ?_⟩
      · have f30 : r91.toInt = 0 := i_eq (a := r91.toInt) (b := 0) rfl rfl c94
        exact j_101  
      · have f31 : r91.toInt ≠ 0 := i_ne (a := r91.toInt) (b := 0) rfl rfl c94
        exact j_102 1 (by omega)
  · have f32 : r2.toInt = 9 := i_eq (a := r2.toInt) (b := 9) rfl rfl c5_7
    exact j_69  (by omega)
  · intro c5_0 c5_1 c5_2 c5_3 c5_4 c5_5 c5_6 c5_7
    have f33 : r2.toInt ≠ 0 := i_ne (a := r2.toInt) (b := 0) rfl rfl c5_0
    have f34 : r2.toInt ≠ 1 := i_ne (a := r2.toInt) (b := 1) rfl rfl c5_1
    have f35 : r2.toInt ≠ 2 := i_ne (a := r2.toInt) (b := 2) rfl rfl c5_2
    have f36 : r2.toInt ≠ 3 := i_ne (a := r2.toInt) (b := 3) rfl rfl c5_3
    have f37 : r2.toInt ≠ 4 := i_ne (a := r2.toInt) (b := 4) rfl rfl c5_4
    have f38 : r2.toInt ≠ 5 := i_ne (a := r2.toInt) (b := 5) rfl rfl c5_5
    have f39 : r2.toInt ≠ 7 := i_ne (a := r2.toInt) (b := 7) rfl rfl c5_6
    have f40 : r2.toInt ≠ 9 := i_ne (a := r2.toInt) (b := 9) rfl rfl c5_7
    exact j_103  (by omega) (by omega) (by omega) (by omega) (by omega) (by omega) (by omega) (by omega)
set_option maxHeartbeats 4000000 in
theorem ok_X10_markBeginning {p1 : Int32} {v_count : Int32} {v_ranges : Int32} {v_sort : Nat → Int32} {v_holder : Nat → Int32} {v_end : Nat → Int32} {v_value : Nat → Int32} {v_low : Nat → Int32} {v_high : Nat → Int32} {v_mayBeEmpty : Nat → Bool} {v_withinCase : Nat → Bool} {v_marked : Nat → Bool} {v_rangeBegin : Nat → Int32} {v_rangeEnd : Nat → Int32} {Q : (Nat → Bool) → Prop} (a0 : 0 ≤ v_count.toInt) (a1 : v_count.toInt ≤ 256) (a2 : 0 ≤ v_ranges.toInt) (a3 : v_ranges.toInt ≤ 512) (b0 : rp (fun k v => k < v ∧ v ≤ 256) v_end 0 v_count.toInt) (b1 : rp (fun k v => v < k ∧ -1 ≤ v) v_holder 0 v_count.toInt) (hq : ∀ (ov_marked : Nat → Bool), Q ov_marked) : w_X10_markBeginning p1 v_count v_ranges v_sort v_holder v_end v_value v_low v_high v_mayBeEmpty v_withinCase v_marked v_rangeBegin v_rangeEnd Q := by
  have q_t : (bz true).toInt = 1 := rfl
  have q_f : (bz false).toInt = 0 := rfl
  unfold w_X10_markBeginning
  intro x5 ex5
  have f1 : x5.toInt = v_count.toInt - 1 := i_sub (a := v_count.toInt) (b := 1) ex5 rfl rfl (by omega) (by omega)
  have j_7 : ∀ n_7 : Nat, ∀ (l2_7 : Int32) (v_marked_7 : Nat → Bool), 0 ≤ l2_7.toInt + 1 → l2_7.toInt + 1 ≤ v_count.toInt → (l2_7.toInt + 2147483649).toNat < n_7 → w_X10_markBeginning_7 p1 v_count v_ranges v_sort v_holder v_end v_value v_low v_high v_mayBeEmpty v_withinCase v_rangeBegin v_rangeEnd Q n_7 l2_7 v_marked_7 := by
    intro n_7
    induction n_7 with
    | zero =>
      intro l2_7 v_marked_7 f2 f3 hm_7
      exfalso; omega
    | succ n_7 ih_7 =>
      intro l2_7 v_marked_7 f2 f3 hm_7
      unfold w_X10_markBeginning_7
      unfold w_X10_markBeginning_7B
      refine ok_X10_has (by omega) (by omega) (fun r9 f4 => ?_)
      refine ⟨fun c12 => ?_, fun c12 => ?_⟩
      · have f5 : r9.toInt = 0 := i_eq (a := r9.toInt) (b := 0) rfl rfl c12
        exact hq v_marked_7 
      · have f6 : r9.toInt ≠ 0 := i_ne (a := r9.toInt) (b := 0) rfl rfl c12
        refine ok_X10_beginsWith (by omega) (by omega) (by omega) (by omega) (rp_mono b0 (by omega) (by omega)) (rp_mono b1 (by omega) (by omega)) (fun r23 f7 f8 => ?_)
        refine ⟨i_in (by omega) (by omega), ?_⟩
        intro g26 eg26
        intro x27 ex27
        have f9 : x27.toInt = l2_7.toInt + (-1) := i_add (a := l2_7.toInt) (b := (-1)) ex27 rfl rfl (by omega) (by omega)
        exact ih_7 x27 g26 (by omega) (by omega) (by have h8_0 := i_rng l2_7; have h8_1 := i_rng x27; omega)
  exact ⟨(x5.toInt + 2147483649).toNat + 1, j_7   ((x5.toInt + 2147483649).toNat + 1) x5 v_marked (by omega) (by omega) (by omega)⟩

set_option maxHeartbeats 4000000 in
theorem ok_X10_partsOf {p1 : Int32} {v_count : Int32} {v_sort : Nat → Int32} {v_parts : Nat → Int32} {v_high : Nat → Int32} {Q : Int32 → Prop} (a0 : 0 ≤ v_count.toInt) (a1 : v_count.toInt ≤ 256) (hq : ∀ (r : Int32), ((0 ≤ p1.toInt ∧ p1.toInt + 1 ≤ v_count.toInt) ∨ (r.toInt = 0)) → Q r) : w_X10_partsOf p1 v_count v_sort v_parts v_high Q := by
  have q_t : (bz true).toInt = 1 := rfl
  have q_f : (bz false).toInt = 0 := rfl
  have q_0 : (0 : Int32).toInt = 0 := rfl
  unfold w_X10_partsOf
  have j_12 : ((p1.toInt + 1 ≤ 0) ∨ (0 ≤ p1.toInt ∧ v_count.toInt ≤ p1.toInt)) → w_X10_partsOf_12 Q := by
    intro f1
    unfold w_X10_partsOf_12
    exact hq 0 (by omega)
  refine ⟨fun c1 => ?_, fun c1 => ?_⟩
  · have f2 : p1.toInt < 0 := i_lt (a := p1.toInt) (b := 0) rfl rfl c1
    exact j_12  (by omega)
  · have f3 : 0 ≤ p1.toInt := i_nlt (a := p1.toInt) (b := 0) rfl rfl c1
    refine ⟨fun c9 => ?_, fun c9 => ?_⟩
    · have f4 : p1.toInt < v_count.toInt := i_lt (a := p1.toInt) (b := v_count.toInt) rfl rfl c9
      refine ⟨i_in (by omega) (by omega), ?_⟩
      intro x19 ex19
      have j_39 : ∀ (s0_39 : Int32), w_X10_partsOf_39 Q s0_39 := by
        intro s0_39
        unfold w_X10_partsOf_39
        exact hq s0_39 (by omega)
      refine ⟨fun c21 => ?_, fun c21 => ?_⟩
      · have f5 : x19.toInt ≠ 2 := i_ne (a := x19.toInt) (b := 2) rfl rfl c21
        refine ⟨i_in (by omega) (by omega), ?_⟩
        intro x38 ex38
        exact j_39 x38 
      · have f6 : x19.toInt = 2 := i_eq (a := x19.toInt) (b := 2) rfl rfl c21
        refine ⟨i_in (by omega) (by omega), ?_⟩
        intro x29 ex29
        exact j_39 x29 
    · have f7 : v_count.toInt ≤ p1.toInt := i_nlt (a := p1.toInt) (b := v_count.toInt) rfl rfl c9
      exact j_12  (by omega)
set_option maxHeartbeats 4000000 in
theorem ok_X10_sameParts {p1 : Int32} {p2 : Int32} {v_count : Int32} {v_ranges : Int32} {v_sort : Nat → Int32} {v_parts : Nat → Int32} {v_low : Nat → Int32} {v_high : Nat → Int32} {v_rangeBegin : Nat → Int32} {v_rangeEnd : Nat → Int32} {Q : Int32 → Prop} (a0 : 0 ≤ v_count.toInt) (a1 : v_count.toInt ≤ 256) (a2 : 0 ≤ v_ranges.toInt) (a3 : v_ranges.toInt ≤ 512) (hq : ∀ (r : Int32), ((r.toInt = 1) ∨ (r.toInt = 0)) → Q r) : w_X10_sameParts p1 p2 v_count v_ranges v_sort v_parts v_low v_high v_rangeBegin v_rangeEnd Q := by
  have q_t : (bz true).toInt = 1 := rfl
  have q_f : (bz false).toInt = 0 := rfl
  have q_0 : (0 : Int32).toInt = 0 := rfl
  have q_1 : (1 : Int32).toInt = 1 := rfl
  unfold w_X10_sameParts
  have j_2 : ∀ n_2 : Nat, ∀ (l3_2 : Int32), 0 ≤ l3_2.toInt → ((-1) * l3_2.toInt + 2147483648).toNat < n_2 → w_X10_sameParts_2 p1 p2 v_count v_ranges v_sort v_parts v_low v_high v_rangeBegin v_rangeEnd Q n_2 l3_2 := by
    intro n_2
    induction n_2 with
    | zero =>
      intro l3_2 f1 hm_2
      exfalso; omega
    | succ n_2 ih_2 =>
      intro l3_2 f1 hm_2
      unfold w_X10_sameParts_2
      unfold w_X10_sameParts_2B
      refine ok_X10_partsOf (by omega) (by omega) (fun r5 f2 => ?_)
      refine ⟨fun c8 => ?_, fun c8 => ?_⟩
      · have f3 : r5.toInt ≤ l3_2.toInt := i_le (a := r5.toInt) (b := l3_2.toInt) rfl rfl c8
        exact hq 1 (by omega)
      · have f4 : l3_2.toInt < r5.toInt := i_nle (a := r5.toInt) (b := l3_2.toInt) rfl rfl c8
        refine ok_X10_partBegin (by omega) (by omega) (by omega) (by omega) (fun r14 => ?_)
        refine ok_X10_partBegin (by omega) (by omega) (by omega) (by omega) (fun r20 => ?_)
        have j_41 : w_X10_sameParts_41 Q := by
          unfold w_X10_sameParts_41
          exact hq 0 (by omega)
        refine ⟨fun c23 => ?_, fun c23 => ?_⟩
        · have f5 : r14.toInt ≠ r20.toInt := i_ne (a := r14.toInt) (b := r20.toInt) rfl rfl c23
          exact j_41  
        · have f6 : r14.toInt = r20.toInt := i_eq (a := r14.toInt) (b := r20.toInt) rfl rfl c23
          refine ok_X10_partEnd (by omega) (by omega) (by omega) (by omega) (fun r29 => ?_)
          refine ok_X10_partEnd (by omega) (by omega) (by omega) (by omega) (fun r35 => ?_)
          refine ⟨fun c38 => ?_, fun c38 => ?_⟩
          · have f7 : r29.toInt = r35.toInt := i_eq (a := r29.toInt) (b := r35.toInt) rfl rfl c38
            intro x43 ex43
            have f8 : x43.toInt = l3_2.toInt + 1 := i_add (a := l3_2.toInt) (b := 1) ex43 rfl rfl (by omega) (by have h8_0 := i_rng l3_2; have h8_1 := i_rng p1; have h8_2 := i_rng r5; have h8_3 := i_rng v_count; omega)
            exact ih_2 x43 (by omega) (by have h8_0 := i_rng l3_2; have h8_1 := i_rng x43; omega)
          · have f9 : r29.toInt ≠ r35.toInt := i_ne (a := r29.toInt) (b := r35.toInt) rfl rfl c38
            exact j_41  
  exact ⟨(2147483648 : Int).toNat + 1, j_2   ((2147483648 : Int).toNat + 1) 0 (by omega) (by omega)⟩
set_option maxHeartbeats 4000000 in
theorem ok_X10_nodeAlike {p1 : Int32} {p2 : Int32} {v_count : Int32} {v_ranges : Int32} {v_sort : Nat → Int32} {v_parts : Nat → Int32} {v_value : Nat → Int32} {v_low : Nat → Int32} {v_high : Nat → Int32} {v_rangeBegin : Nat → Int32} {v_rangeEnd : Nat → Int32} {Q : Int32 → Prop} (a0 : 0 ≤ v_count.toInt) (a1 : v_count.toInt ≤ 256) (a2 : 0 ≤ v_ranges.toInt) (a3 : v_ranges.toInt ≤ 512) (hq : ∀ (r : Int32), 0 ≤ r.toInt → r.toInt ≤ 1 → Q r) : w_X10_nodeAlike p1 p2 v_count v_ranges v_sort v_parts v_value v_low v_high v_rangeBegin v_rangeEnd Q := by
  have q_t : (bz true).toInt = 1 := rfl
  have q_f : (bz false).toInt = 0 := rfl
  have q_0 : (0 : Int32).toInt = 0 := rfl
  have q_1 : (1 : Int32).toInt = 1 := rfl
  unfold w_X10_nodeAlike
  refine ok_X10_sortOf (by omega) (by omega) (fun r2 f1 => ?_)
  refine ok_X10_sortOf (by omega) (by omega) (fun r7 f2 => ?_)
  have j_26 : w_X10_nodeAlike_26 Q := by
    unfold w_X10_nodeAlike_26
    exact hq 0 (by omega) (by omega)
  refine ⟨fun c10 => ?_, fun c10 => ?_⟩
  · have f3 : r2.toInt ≠ r7.toInt := i_ne (a := r2.toInt) (b := r7.toInt) rfl rfl c10
    exact j_26  
  · have f4 : r2.toInt = r7.toInt := i_eq (a := r2.toInt) (b := r7.toInt) rfl rfl c10
    refine ok_X10_partsOf (by omega) (by omega) (fun r15 f5 => ?_)
    refine ok_X10_partsOf (by omega) (by omega) (fun r20 f6 => ?_)
    refine ⟨fun c23 => ?_, fun c23 => ?_⟩
    · have f7 : r15.toInt = r20.toInt := i_eq (a := r15.toInt) (b := r20.toInt) rfl rfl c23
      refine ok_X10_sortOf (by omega) (by omega) (fun r30 f8 => ?_)
      refine ⟨fun c33_0 => ?_, fun c33_1 => ?_, fun c33_2 => ?_, ?_⟩
      · have f9 : r30.toInt = 2 := i_eq (a := r30.toInt) (b := 2) rfl rfl c33_0
        refine ok_X10_valueOf (by omega) (by omega) (fun r70 f10 => ?_)
        refine ok_X10_valueOf (by omega) (by omega) (fun r75 f11 => ?_)
        have j_95 : ∀ (s0_95 : Int32), ((s0_95.toInt = 1 ∧ r70.toInt = r75.toInt) ∨ (s0_95.toInt = 0)) → w_X10_nodeAlike_95 Q s0_95 := by
          intro s0_95 f12
          unfold w_X10_nodeAlike_95
          refine ⟨i_01 (by omega) (by omega), ?_⟩
          exact hq s0_95 (by omega) (by omega)
        have j_94 : w_X10_nodeAlike_94 Q := by
          unfold w_X10_nodeAlike_94
          exact j_95 0 (by omega)
        refine ⟨fun c78 => ?_, fun c78 => ?_⟩
        · have f13 : r70.toInt ≠ r75.toInt := i_ne (a := r70.toInt) (b := r75.toInt) rfl rfl c78
          exact j_94  
        · have f14 : r70.toInt = r75.toInt := i_eq (a := r70.toInt) (b := r75.toInt) rfl rfl c78
          refine ok_X10_sameParts (by omega) (by omega) (by omega) (by omega) (fun r84 f15 => ?_)
          refine ⟨fun c87 => ?_, fun c87 => ?_⟩
          · have f16 : r84.toInt = 0 := i_eq (a := r84.toInt) (b := 0) rfl rfl c87
            exact j_94  
          · have f17 : r84.toInt ≠ 0 := i_ne (a := r84.toInt) (b := 0) rfl rfl c87
            exact j_95 1 (by omega)
      · have f18 : r30.toInt = 7 := i_eq (a := r30.toInt) (b := 7) rfl rfl c33_1
        refine ok_X10_valueOf (by omega) (by omega) (fun r98 f19 => ?_)
        refine ok_X10_valueOf (by omega) (by omega) (fun r103 f20 => ?_)
        have j_140 : ∀ (s0_140 : Int32), ((s0_140.toInt = 1 ∧ r98.toInt = r103.toInt) ∨ (s0_140.toInt = 0)) → w_X10_nodeAlike_140 Q s0_140 := by
          intro s0_140 f21
          unfold w_X10_nodeAlike_140
          refine ⟨i_01 (by omega) (by omega), ?_⟩
          exact hq s0_140 (by omega) (by omega)
        have j_139 : w_X10_nodeAlike_139 Q := by
          unfold w_X10_nodeAlike_139
          exact j_140 0 (by omega)
        refine ⟨fun c106 => ?_, fun c106 => ?_⟩
        · have f22 : r98.toInt ≠ r103.toInt := i_ne (a := r98.toInt) (b := r103.toInt) rfl rfl c106
          exact j_139  
        · have f23 : r98.toInt = r103.toInt := i_eq (a := r98.toInt) (b := r103.toInt) rfl rfl c106
          refine ok_X10_lowOf (by omega) (by omega) (fun r111 f24 => ?_)
          refine ok_X10_lowOf (by omega) (by omega) (fun r116 f25 => ?_)
          refine ⟨fun c119 => ?_, fun c119 => ?_⟩
          · have f26 : r111.toInt ≠ r116.toInt := i_ne (a := r111.toInt) (b := r116.toInt) rfl rfl c119
            exact j_139  
          · have f27 : r111.toInt = r116.toInt := i_eq (a := r111.toInt) (b := r116.toInt) rfl rfl c119
            refine ok_X10_highOf (by omega) (by omega) (fun r124 f28 => ?_)
            refine ok_X10_highOf (by omega) (by omega) (fun r129 f29 => ?_)
            refine ⟨fun c132 => ?_, fun c132 => ?_⟩
            · have f30 : r124.toInt ≠ r129.toInt := i_ne (a := r124.toInt) (b := r129.toInt) rfl rfl c132
              exact j_139  
            · have f31 : r124.toInt = r129.toInt := i_eq (a := r124.toInt) (b := r129.toInt) rfl rfl c132
              exact j_140 1 (by omega)
      · have f32 : r30.toInt = 8 := i_eq (a := r30.toInt) (b := 8) rfl rfl c33_2
        refine ok_X10_lowOf (by omega) (by omega) (fun r143 f33 => ?_)
        refine ok_X10_lowOf (by omega) (by omega) (fun r148 f34 => ?_)
        have j_159 : ∀ (s0_159 : Int32), ((s0_159.toInt = 0) ∨ (s0_159.toInt = 1 ∧ r143.toInt = r148.toInt)) → w_X10_nodeAlike_159 Q s0_159 := by
          intro s0_159 f35
          unfold w_X10_nodeAlike_159
          refine ⟨i_01 (by omega) (by omega), ?_⟩
          exact hq s0_159 (by omega) (by omega)
        refine ⟨fun c151 => ?_, fun c151 => ?_⟩
        · have f36 : r143.toInt ≠ r148.toInt := i_ne (a := r143.toInt) (b := r148.toInt) rfl rfl c151
          exact j_159 0 (by omega)
        · have f37 : r143.toInt = r148.toInt := i_eq (a := r143.toInt) (b := r148.toInt) rfl rfl c151
          exact j_159 1 (by omega)
      · intro c33_0 c33_1 c33_2
        have f38 : r30.toInt ≠ 2 := i_ne (a := r30.toInt) (b := 2) rfl rfl c33_0
        have f39 : r30.toInt ≠ 7 := i_ne (a := r30.toInt) (b := 7) rfl rfl c33_1
        have f40 : r30.toInt ≠ 8 := i_ne (a := r30.toInt) (b := 8) rfl rfl c33_2
        refine ok_X10_valueOf (by omega) (by omega) (fun r162 f41 => ?_)
        refine ok_X10_valueOf (by omega) (by omega) (fun r167 f42 => ?_)
        have j_178 : ∀ (s0_178 : Int32), ((s0_178.toInt = 0) ∨ (s0_178.toInt = 1 ∧ r162.toInt = r167.toInt)) → w_X10_nodeAlike_178 Q s0_178 := by
          intro s0_178 f43
          unfold w_X10_nodeAlike_178
          refine ⟨i_01 (by omega) (by omega), ?_⟩
          exact hq s0_178 (by omega) (by omega)
        refine ⟨fun c170 => ?_, fun c170 => ?_⟩
        · have f44 : r162.toInt ≠ r167.toInt := i_ne (a := r162.toInt) (b := r167.toInt) rfl rfl c170
          exact j_178 0 (by omega)
        · have f45 : r162.toInt = r167.toInt := i_eq (a := r162.toInt) (b := r167.toInt) rfl rfl c170
          exact j_178 1 (by omega)
    · have f46 : r15.toInt ≠ r20.toInt := i_ne (a := r15.toInt) (b := r20.toInt) rfl rfl c23
      exact j_26  
set_option maxHeartbeats 4000000 in
theorem ok_X10_printAlike {p1 : Int32} {p2 : Int32} {v_count : Int32} {v_ranges : Int32} {v_sort : Nat → Int32} {v_end : Nat → Int32} {v_parts : Nat → Int32} {v_value : Nat → Int32} {v_low : Nat → Int32} {v_high : Nat → Int32} {v_rangeBegin : Nat → Int32} {v_rangeEnd : Nat → Int32} {Q : Int32 → Prop} (a0 : 0 ≤ v_count.toInt) (a1 : v_count.toInt ≤ 256) (a2 : 0 ≤ v_ranges.toInt) (a3 : v_ranges.toInt ≤ 512) (b0 : rp (fun k v => k < v ∧ v ≤ 256) v_end 0 v_count.toInt) (hq : ∀ (r : Int32), ((r.toInt = 0) ∨ (r.toInt = 1)) → Q r) : w_X10_printAlike p1 p2 v_count v_ranges v_sort v_end v_parts v_value v_low v_high v_rangeBegin v_rangeEnd Q := by
  have q_t : (bz true).toInt = 1 := rfl
  have q_f : (bz false).toInt = 0 := rfl
  have q_0 : (0 : Int32).toInt = 0 := rfl
  have q_1 : (1 : Int32).toInt = 1 := rfl
  unfold w_X10_printAlike
  refine ok_X10_endOf (by omega) (by omega) (rp_mono b0 (by omega) (by omega)) (fun r2 f1 => ?_)
  intro x6 ex6
  refine ok_X10_endOf (by omega) (by omega) (rp_mono b0 (by omega) (by omega)) (fun r11 f2 => ?_)
  intro x15 ex15
  refine ⟨fun c16 => ?_, fun c16 => ?_⟩
  · have f3 : x6.toInt = x15.toInt := i_eq (a := x6.toInt) (b := x15.toInt) rfl rfl c16
    have j_24 : ∀ n_24 : Nat, ∀ (l4_24 : Int32), 0 ≤ l4_24.toInt → ((-1) * l4_24.toInt + 2147483648).toNat < n_24 → w_X10_printAlike_24 p1 p2 v_count v_ranges v_sort v_parts v_value v_low v_high v_rangeBegin v_rangeEnd Q x6 n_24 l4_24 := by
      intro n_24
      induction n_24 with
      | zero =>
        intro l4_24 f4 hm_24
        exfalso; omega
      | succ n_24 ih_24 =>
        intro l4_24 f4 hm_24
        unfold w_X10_printAlike_24
        unfold w_X10_printAlike_24B
        refine ⟨fun c27 => ?_, fun c27 => ?_⟩
        · have f5 : x6.toInt ≤ l4_24.toInt := i_le (a := x6.toInt) (b := l4_24.toInt) rfl rfl c27
          exact hq 1 (by omega)
        · have f6 : l4_24.toInt < x6.toInt := i_nle (a := x6.toInt) (b := l4_24.toInt) rfl rfl c27
          intro x34 ex34
          intro x38 ex38
          refine ok_X10_nodeAlike (by omega) (by omega) (by omega) (by omega) (fun r39 f7 f8 => ?_)
          refine ⟨fun c42 => ?_, fun c42 => ?_⟩
          · have f9 : r39.toInt ≠ 0 := i_ne (a := r39.toInt) (b := 0) rfl rfl c42
            intro x47 ex47
            have f10 : x47.toInt = l4_24.toInt + 1 := i_add (a := l4_24.toInt) (b := 1) ex47 rfl rfl (by omega) (by have h8_0 := i_rng l4_24; have h8_1 := i_rng x15; have h8_2 := i_rng x6; omega)
            exact ih_24 x47 (by omega) (by have h8_0 := i_rng l4_24; have h8_1 := i_rng x47; omega)
          · have f11 : r39.toInt = 0 := i_eq (a := r39.toInt) (b := 0) rfl rfl c42
            exact hq 0 (by omega)
    exact ⟨(2147483648 : Int).toNat + 1, j_24   ((2147483648 : Int).toNat + 1) 0 (by omega) (by omega)⟩
  · have f12 : x6.toInt ≠ x15.toInt := i_ne (a := x6.toInt) (b := x15.toInt) rfl rfl c16
    exact hq 0 (by omega)
set_option maxHeartbeats 4000000 in
theorem ok_X10_isSaidAhead {p1 : Int32} {v_count : Int32} {v_ranges : Int32} {v_sort : Nat → Int32} {v_end : Nat → Int32} {v_before : Nat → Int32} {v_parts : Nat → Int32} {v_value : Nat → Int32} {v_low : Nat → Int32} {v_high : Nat → Int32} {v_rangeBegin : Nat → Int32} {v_rangeEnd : Nat → Int32} {Q : Int32 → Prop} (a0 : 0 ≤ v_count.toInt) (a1 : v_count.toInt ≤ 256) (a2 : 0 ≤ v_ranges.toInt) (a3 : v_ranges.toInt ≤ 512) (b0 : rp (fun k v => k < v ∧ v ≤ 256) v_end 0 v_count.toInt) (b1 : rp (fun k v => v < k ∧ -1 ≤ v) v_before 0 v_count.toInt) (hq : ∀ (r : Int32), ((r.toInt = 0) ∨ (r.toInt = 1)) → Q r) : w_X10_isSaidAhead p1 v_count v_ranges v_sort v_end v_before v_parts v_value v_low v_high v_rangeBegin v_rangeEnd Q := by
  have q_t : (bz true).toInt = 1 := rfl
  have q_f : (bz false).toInt = 0 := rfl
  have q_0 : (0 : Int32).toInt = 0 := rfl
  have q_1 : (1 : Int32).toInt = 1 := rfl
  unfold w_X10_isSaidAhead
  refine ok_X10_beforeOf (by omega) (by omega) (rp_mono b1 (by omega) (by omega)) (fun r2 f1 => ?_)
  have j_6 : ∀ n_6 : Nat, ∀ (l2_6 : Int32), 0 ≤ l2_6.toInt + 1 → l2_6.toInt ≤ r2.toInt → (l2_6.toInt + 2147483649).toNat < n_6 → w_X10_isSaidAhead_6 p1 v_count v_ranges v_sort v_end v_before v_parts v_value v_low v_high v_rangeBegin v_rangeEnd Q n_6 l2_6 := by
    intro n_6
    induction n_6 with
    | zero =>
      intro l2_6 f2 f3 hm_6
      exfalso; omega
    | succ n_6 ih_6 =>
      intro l2_6 f2 f3 hm_6
      unfold w_X10_isSaidAhead_6
      unfold w_X10_isSaidAhead_6B
      refine ok_X10_has (by omega) (by omega) (fun r8 f4 => ?_)
      refine ⟨fun c11 => ?_, fun c11 => ?_⟩
      · have f5 : r8.toInt = 0 := i_eq (a := r8.toInt) (b := 0) rfl rfl c11
        exact hq 0 (by omega)
      · have f6 : r8.toInt ≠ 0 := i_ne (a := r8.toInt) (b := 0) rfl rfl c11
        refine ok_X10_printAlike (by omega) (by omega) (by omega) (by omega) (rp_mono b0 (by omega) (by omega)) (fun r17 f7 => ?_)
        refine ⟨fun c20 => ?_, fun c20 => ?_⟩
        · have f8 : r17.toInt = 0 := i_eq (a := r17.toInt) (b := 0) rfl rfl c20
          refine ⟨i_in (by omega) (by omega), ?_⟩
          intro x30 ex30
          have f9 : x30.toInt + 1 ≤ l2_6.toInt ∧ 0 ≤ x30.toInt + 1 := by have h9 := rp_get (P := (fun k v => v < k ∧ -1 ≤ v)) (a := l2_6.toInt) b1 ex30 rfl (by omega) (by omega) (by omega); omega
          exact ih_6 x30 (by omega) (by omega) (by have h8_0 := i_rng l2_6; have h8_1 := i_rng x30; omega)
        · have f10 : r17.toInt ≠ 0 := i_ne (a := r17.toInt) (b := 0) rfl rfl c20
          exact hq 1 (by omega)
  exact ⟨(r2.toInt + 2147483649).toNat + 1, j_6   ((r2.toInt + 2147483649).toNat + 1) r2 (by omega) (by omega) (by omega)⟩
set_option maxHeartbeats 4000000 in
theorem ok_X10_captureNamed {p1 : Int32} {v_count : Int32} {v_sort : Nat → Int32} {v_value : Nat → Int32} {v_low : Nat → Int32} {Q : Int32 → Prop} (a0 : 0 ≤ v_count.toInt) (a1 : v_count.toInt ≤ 256) (hq : ∀ (r : Int32), Q r) : w_X10_captureNamed p1 v_count v_sort v_value v_low Q := by
  have q_t : (bz true).toInt = 1 := rfl
  have q_f : (bz false).toInt = 0 := rfl
  have q_m1 : ((-1) : Int32).toInt = (-1) := rfl
  have q_0 : (0 : Int32).toInt = 0 := rfl
  unfold w_X10_captureNamed
  have j_2 : ∀ n_2 : Nat, ∀ (l2_2 : Int32), 0 ≤ l2_2.toInt → l2_2.toInt ≤ v_count.toInt → ((-1) * l2_2.toInt + 2147483648).toNat < n_2 → w_X10_captureNamed_2 p1 v_count v_sort v_value v_low Q n_2 l2_2 := by
    intro n_2
    induction n_2 with
    | zero =>
      intro l2_2 f1 f2 hm_2
      exfalso; omega
    | succ n_2 ih_2 =>
      intro l2_2 f1 f2 hm_2
      unfold w_X10_captureNamed_2
      unfold w_X10_captureNamed_2B
      refine ok_X10_has (by omega) (by omega) (fun r4 f3 => ?_)
      refine ⟨fun c7 => ?_, fun c7 => ?_⟩
      · have f4 : r4.toInt = 0 := i_eq (a := r4.toInt) (b := 0) rfl rfl c7
        exact hq (-1) 
      · have f5 : r4.toInt ≠ 0 := i_ne (a := r4.toInt) (b := 0) rfl rfl c7
        refine ⟨i_in (by omega) (by omega), ?_⟩
        intro x15 ex15
        have j_38 : w_X10_captureNamed_38 Q (w_X10_captureNamed_2 p1 v_count v_sort v_value v_low Q n_2) l2_2 := by
          unfold w_X10_captureNamed_38
          intro x38 ex38
          have f6 : x38.toInt = l2_2.toInt + 1 := i_add (a := l2_2.toInt) (b := 1) ex38 rfl rfl (by omega) (by omega)
          exact ih_2 x38 (by omega) (by omega) (by have h8_0 := i_rng l2_2; have h8_1 := i_rng x38; omega)
        refine ⟨fun c18 => ?_, fun c18 => ?_⟩
        · have f7 : x15.toInt ≠ 8 := i_ne (a := x15.toInt) (b := 8) rfl rfl c18
          exact j_38  
        · have f8 : x15.toInt = 8 := i_eq (a := x15.toInt) (b := 8) rfl rfl c18
          refine ⟨i_in (by omega) (by omega), ?_⟩
          intro x26 ex26
          refine ⟨fun c28 => ?_, fun c28 => ?_⟩
          · have f9 : x26.toInt ≠ p1.toInt := i_ne (a := x26.toInt) (b := p1.toInt) rfl rfl c28
            exact j_38  
          · have f10 : x26.toInt = p1.toInt := i_eq (a := x26.toInt) (b := p1.toInt) rfl rfl c28
            refine ⟨i_in (by omega) (by omega), ?_⟩
            intro x36 ex36
            exact hq x36 
  exact ⟨(2147483648 : Int).toNat + 1, j_2   ((2147483648 : Int).toNat + 1) 0 (by omega) (by omega) (by omega)⟩
set_option maxHeartbeats 4000000 in
theorem ok_X10_isTooLargeFor {p1 : Int32} {v_count : Int32} {v_size : Nat → Int32} {v_positions : Nat → Int32} {Q : Int32 → Prop} (a0 : 0 ≤ v_count.toInt) (a1 : v_count.toInt ≤ 256) (hq : ∀ (r : Int32), ((1 ≤ v_count.toInt) ∨ (r.toInt = 0)) → 0 ≤ r.toInt → r.toInt ≤ 1 → Q r) : w_X10_isTooLargeFor p1 v_count v_size v_positions Q := by
  have q_t : (bz true).toInt = 1 := rfl
  have q_f : (bz false).toInt = 0 := rfl
  have q_0 : (0 : Int32).toInt = 0 := rfl
  have q_1 : (1 : Int32).toInt = 1 := rfl
  unfold w_X10_isTooLargeFor
  have j_12 : ((p1.toInt = 0) ∨ (v_count.toInt ≤ 0)) → w_X10_isTooLargeFor_12 Q := by
    intro f1
    unfold w_X10_isTooLargeFor_12
    exact hq 0 (by omega) (by omega) (by omega)
  refine ⟨fun c1 => ?_, fun c1 => ?_⟩
  · have f2 : p1.toInt = 0 := i_eq (a := p1.toInt) (b := 0) rfl rfl c1
    exact j_12  (by omega)
  · have f3 : p1.toInt ≠ 0 := i_ne (a := p1.toInt) (b := 0) rfl rfl c1
    refine ⟨fun c9 => ?_, fun c9 => ?_⟩
    · have f4 : 1 ≤ v_count.toInt := i_le (a := 1) (b := v_count.toInt) rfl rfl c9
      intro x19 ex19
      have j_47 : ∀ (s0_47 : Int32), ((s0_47.toInt = 0) ∨ (s0_47.toInt = 1)) → w_X10_isTooLargeFor_47 Q s0_47 := by
        intro s0_47 f5
        unfold w_X10_isTooLargeFor_47
        refine ⟨i_01 (by omega) (by omega), ?_⟩
        exact hq s0_47 (by omega) (by omega) (by omega)
      have j_42 : w_X10_isTooLargeFor_42 Q := by
        unfold w_X10_isTooLargeFor_42
        exact j_47 1 (by omega)
      refine ⟨fun c23 => ?_, fun c23 => ?_⟩
      · have f6 : 200 < x19.toInt := i_lt (a := 200) (b := x19.toInt) rfl rfl c23
        exact j_42  
      · have f7 : x19.toInt ≤ 200 := i_nlt (a := 200) (b := x19.toInt) rfl rfl c23
        have j_46 : w_X10_isTooLargeFor_46 Q := by
          unfold w_X10_isTooLargeFor_46
          exact j_47 0 (by omega)
        refine ⟨fun c28 => ?_, fun c28 => ?_⟩
        · have f8 : p1.toInt ≠ 2 := i_ne (a := p1.toInt) (b := 2) rfl rfl c28
          exact j_46  
        · have f9 : p1.toInt = 2 := i_eq (a := p1.toInt) (b := 2) rfl rfl c28
          intro x36 ex36
          refine ⟨fun c39 => ?_, fun c39 => ?_⟩
          · have f10 : x36.toInt ≤ 60 := i_le (a := x36.toInt) (b := 60) rfl rfl c39
            exact j_46  
          · have f11 : 60 < x36.toInt := i_nle (a := x36.toInt) (b := 60) rfl rfl c39
            exact j_42  
    · have f12 : v_count.toInt < 1 := i_nle (a := 1) (b := v_count.toInt) rfl rfl c9
      exact j_12  (by omega)
set_option maxHeartbeats 4000000 in
theorem ok_X10_outermostEndless {p1 : Int32} {v_count : Int32} {v_sort : Nat → Int32} {v_holder : Nat → Int32} {v_end : Nat → Int32} {v_high : Nat → Int32} {v_marked : Nat → Bool} {Q : Int32 → Prop} (a0 : 0 ≤ v_count.toInt) (a1 : v_count.toInt ≤ 256) (b0 : rp (fun k v => k < v ∧ v ≤ 256) v_end 0 v_count.toInt) (b1 : rp (fun k v => v < k ∧ -1 ≤ v) v_holder 0 v_count.toInt) (hq : ∀ (r : Int32), 0 ≤ r.toInt + 1 → r.toInt ≤ v_count.toInt → r.toInt + 1 ≤ v_count.toInt → r.toInt ≤ v_count.toInt + 1 → Q r) : w_X10_outermostEndless p1 v_count v_sort v_holder v_end v_high v_marked Q := by
  have q_t : (bz true).toInt = 1 := rfl
  have q_f : (bz false).toInt = 0 := rfl
  have q_m1 : ((-1) : Int32).toInt = (-1) := rfl
  unfold w_X10_outermostEndless
  refine ok_X10_holderOf (by omega) (by omega) (rp_mono b1 (by omega) (by omega)) (fun r4 f1 => ?_)
  have j_8 : ∀ n_8 : Nat, ∀ (l2_8 : Int32) (l3_8 : Int32), 0 ≤ l2_8.toInt + 1 → l2_8.toInt + 1 ≤ v_count.toInt → 0 ≤ l3_8.toInt + 1 → l3_8.toInt ≤ r4.toInt → (l3_8.toInt + 2147483649).toNat < n_8 → w_X10_outermostEndless_8 v_count v_sort v_holder v_end v_high v_marked Q n_8 l2_8 l3_8 := by
    intro n_8
    induction n_8 with
    | zero =>
      intro l2_8 l3_8 f2 f3 f4 f5 hm_8
      exfalso; omega
    | succ n_8 ih_8 =>
      intro l2_8 l3_8 f2 f3 f4 f5 hm_8
      unfold w_X10_outermostEndless_8
      unfold w_X10_outermostEndless_8B
      refine ok_X10_has (by omega) (by omega) (fun r10 f6 => ?_)
      refine ⟨fun c13 => ?_, fun c13 => ?_⟩
      · have f7 : r10.toInt = 0 := i_eq (a := r10.toInt) (b := 0) rfl rfl c13
        exact hq l2_8 (by omega) (by omega) (by omega) (by omega)
      · have f8 : r10.toInt ≠ 0 := i_ne (a := r10.toInt) (b := 0) rfl rfl c13
        refine ok_X10_isEndless (by omega) (by omega) (fun r18 f9 f10 => ?_)
        have j_38 : ∀ (l2_38 : Int32), ((l2_38.toInt = l2_8.toInt ∧ r18.toInt = 0) ∨ (l2_38.toInt = l2_8.toInt) ∨ (l2_38.toInt = l3_8.toInt)) → w_X10_outermostEndless_38 v_holder Q (w_X10_outermostEndless_8 v_count v_sort v_holder v_end v_high v_marked Q n_8) l2_38 l3_8 := by
          intro l2_38 f11
          unfold w_X10_outermostEndless_38
          refine ⟨i_in (by omega) (by omega), ?_⟩
          intro x43 ex43
          have f12 : x43.toInt + 1 ≤ l3_8.toInt ∧ 0 ≤ x43.toInt + 1 := by have h9 := rp_get (P := (fun k v => v < k ∧ -1 ≤ v)) (a := l3_8.toInt) b1 ex43 rfl (by omega) (by omega) (by omega); omega
          exact ih_8 l2_38 x43 (by omega) (by omega) (by omega) (by omega) (by have h8_0 := i_rng l3_8; have h8_1 := i_rng x43; omega)
        refine ⟨fun c21 => ?_, fun c21 => ?_⟩
        · have f13 : r18.toInt = 0 := i_eq (a := r18.toInt) (b := 0) rfl rfl c21
          exact j_38 l2_8 (by omega)
        · have f14 : r18.toInt ≠ 0 := i_ne (a := r18.toInt) (b := 0) rfl rfl c21
          refine ok_X10_firstOf (by omega) (by omega) (rp_mono b0 (by omega) (by omega)) (fun r27 f15 f16 => ?_)
          refine ok_X10_isMarked (by omega) (by omega) (fun r30 f17 => ?_)
          refine ⟨fun c33 => ?_, fun c33 => ?_⟩
          · have f18 : r30.toInt = 0 := i_eq (a := r30.toInt) (b := 0) rfl rfl c33
            exact j_38 l2_8 (by omega)
          · have f19 : r30.toInt ≠ 0 := i_ne (a := r30.toInt) (b := 0) rfl rfl c33
            exact j_38 l3_8 (by omega)
  exact ⟨(r4.toInt + 2147483649).toNat + 1, j_8   ((r4.toInt + 2147483649).toNat + 1) (-1) r4 (by omega) (by omega) (by omega) (by omega) (by omega)⟩
set_option maxHeartbeats 4000000 in
theorem ok_X10_isParallel {p1 : Int32} {v_count : Int32} {v_sort : Nat → Int32} {v_end : Nat → Int32} {v_value : Nat → Int32} {v_low : Nat → Int32} {v_high : Nat → Int32} {v_mayBeEmpty : Nat → Bool} {Q : Int32 → Prop} (a0 : 0 ≤ v_count.toInt) (a1 : v_count.toInt ≤ 256) (b0 : rp (fun k v => k < v ∧ v ≤ 256) v_end 0 v_count.toInt) (hq : ∀ (r : Int32), 0 ≤ r.toInt → r.toInt ≤ 1 → Q r) : w_X10_isParallel p1 v_count v_sort v_end v_value v_low v_high v_mayBeEmpty Q := by
  have q_t : (bz true).toInt = 1 := rfl
  have q_f : (bz false).toInt = 0 := rfl
  have q_0 : (0 : Int32).toInt = 0 := rfl
  have q_1 : (1 : Int32).toInt = 1 := rfl
  unfold w_X10_isParallel
  refine ok_X10_sortOf (by omega) (by omega) (fun r2 f1 => ?_)
  have j_48 : ((r2.toInt = 4) ∨ (r2.toInt = 9) ∨ (r2.toInt = 10)) → w_X10_isParallel_48 Q := by
    intro f2
    unfold w_X10_isParallel_48
    exact hq 0 (by omega) (by omega)
  have j_101 : r2.toInt ≠ 4 → r2.toInt ≠ 7 → r2.toInt ≠ 9 → r2.toInt ≠ 10 → w_X10_isParallel_101 Q := by
    intro f3 f4 f5 f6
    unfold w_X10_isParallel_101
    exact hq 1 (by omega) (by omega)
  refine ⟨fun c5_0 => ?_, fun c5_1 => ?_, fun c5_2 => ?_, fun c5_3 => ?_, ?_⟩
  · have f7 : r2.toInt = 4 := i_eq (a := r2.toInt) (b := 4) rfl rfl c5_0
    exact j_48  (by omega)
  · have f8 : r2.toInt = 7 := i_eq (a := r2.toInt) (b := 7) rfl rfl c5_1
    refine ok_X10_firstOf (by omega) (by omega) (rp_mono b0 (by omega) (by omega)) (fun r52 f9 f10 => ?_)
    refine ok_X10_valueOf (by omega) (by omega) (fun r58 f11 => ?_)
    have j_100 : ∀ (s0_100 : Int32), ((s0_100.toInt = 1) ∨ (s0_100.toInt = 0)) → w_X10_isParallel_100 Q s0_100 := by
      intro s0_100 f12
      unfold w_X10_isParallel_100
      refine ⟨i_01 (by omega) (by omega), ?_⟩
      exact hq s0_100 (by omega) (by omega)
    have j_99 : w_X10_isParallel_99 Q := by
      unfold w_X10_isParallel_99
      exact j_100 0 (by omega)
    refine ⟨fun c62 => ?_, fun c62 => ?_⟩
    · have f13 : r58.toInt = 2 := i_eq (a := r58.toInt) (b := 2) rfl rfl c62
      exact j_99  
    · have f14 : r58.toInt ≠ 2 := i_ne (a := r58.toInt) (b := 2) rfl rfl c62
      refine ok_X10_highOf (by omega) (by omega) (fun r67 f15 => ?_)
      refine ok_X10_lowOf (by omega) (by omega) (fun r72 f16 => ?_)
      have j_95 : ((r67.toInt ≤ r72.toInt) ∨ (r72.toInt + 1 ≤ r67.toInt)) → w_X10_isParallel_95 Q := by
        intro f17
        unfold w_X10_isParallel_95
        exact j_100 1 (by omega)
      refine ⟨fun c75 => ?_, fun c75 => ?_⟩
      · have f18 : r67.toInt ≤ r72.toInt := i_le (a := r67.toInt) (b := r72.toInt) rfl rfl c75
        exact j_95  (by omega)
      · have f19 : r72.toInt < r67.toInt := i_nle (a := r67.toInt) (b := r72.toInt) rfl rfl c75
        refine ok_X10_has (by omega) (by omega) (fun r80 f20 => ?_)
        refine ⟨fun c83 => ?_, fun c83 => ?_⟩
        · have f21 : r80.toInt = 0 := i_eq (a := r80.toInt) (b := 0) rfl rfl c83
          exact j_95  (by omega)
        · have f22 : r80.toInt ≠ 0 := i_ne (a := r80.toInt) (b := 0) rfl rfl c83
          refine ⟨i_in (by omega) (by omega), ?_⟩
          intro x91 ex91
          have f23 : (0 ≤ x91.toInt ∧ x91.toInt ≤ 1) := i_bz ex91
          refine ⟨fun c92 => ?_, fun c92 => ?_⟩
          · have f24 : x91.toInt ≠ 0 := i_ne (a := x91.toInt) (b := 0) rfl rfl c92
            exact j_99  
          · have f25 : x91.toInt = 0 := i_eq (a := x91.toInt) (b := 0) rfl rfl c92
            exact j_95  (by omega)
  · have f26 : r2.toInt = 9 := i_eq (a := r2.toInt) (b := 9) rfl rfl c5_2
    exact j_48  (by omega)
  · have f27 : r2.toInt = 10 := i_eq (a := r2.toInt) (b := 10) rfl rfl c5_3
    exact j_48  (by omega)
  · intro c5_0 c5_1 c5_2 c5_3
    have f28 : r2.toInt ≠ 4 := i_ne (a := r2.toInt) (b := 4) rfl rfl c5_0
    have f29 : r2.toInt ≠ 7 := i_ne (a := r2.toInt) (b := 7) rfl rfl c5_1
    have f30 : r2.toInt ≠ 9 := i_ne (a := r2.toInt) (b := 9) rfl rfl c5_2
    have f31 : r2.toInt ≠ 10 := i_ne (a := r2.toInt) (b := 10) rfl rfl c5_3
    exact j_101  (by omega) (by omega) (by omega) (by omega)
set_option maxHeartbeats 4000000 in
theorem ok_X10_isTakenBy {p1 : Int32} {v_count : Int32} {v_sort : Nat → Int32} {v_end : Nat → Int32} {v_value : Nat → Int32} {v_low : Nat → Int32} {v_high : Nat → Int32} {v_mayBeEmpty : Nat → Bool} {Q : Int32 → Prop} (a0 : 0 ≤ v_count.toInt) (a1 : v_count.toInt ≤ 256) (b0 : rp (fun k v => k < v ∧ v ≤ 256) v_end 0 v_count.toInt) (hq : ∀ (r : Int32), ((r.toInt = 0) ∨ (r.toInt = 1)) → Q r) : w_X10_isTakenBy p1 v_count v_sort v_end v_value v_low v_high v_mayBeEmpty Q := by
  have q_t : (bz true).toInt = 1 := rfl
  have q_f : (bz false).toInt = 0 := rfl
  have q_0 : (0 : Int32).toInt = 0 := rfl
  have q_1 : (1 : Int32).toInt = 1 := rfl
  unfold w_X10_isTakenBy
  have j_2 : ∀ n_2 : Nat, ∀ (l2_2 : Int32), 0 ≤ l2_2.toInt → l2_2.toInt ≤ v_count.toInt → ((-1) * l2_2.toInt + 2147483648).toNat < n_2 → w_X10_isTakenBy_2 p1 v_count v_sort v_end v_value v_low v_high v_mayBeEmpty Q n_2 l2_2 := by
    intro n_2
    induction n_2 with
    | zero =>
      intro l2_2 f1 f2 hm_2
      exfalso; omega
    | succ n_2 ih_2 =>
      intro l2_2 f1 f2 hm_2
      unfold w_X10_isTakenBy_2
      unfold w_X10_isTakenBy_2B
      have j_63 : w_X10_isTakenBy_63 Q := by
        unfold w_X10_isTakenBy_63
        exact hq 1 (by omega)
      refine ⟨fun c3 => ?_, fun c3 => ?_⟩
      · have f3 : p1.toInt = 0 := i_eq (a := p1.toInt) (b := 0) rfl rfl c3
        exact j_63  
      · have f4 : p1.toInt ≠ 0 := i_ne (a := p1.toInt) (b := 0) rfl rfl c3
        refine ok_X10_has (by omega) (by omega) (fun r8 f5 => ?_)
        refine ⟨fun c11 => ?_, fun c11 => ?_⟩
        · have f6 : r8.toInt = 0 := i_eq (a := r8.toInt) (b := 0) rfl rfl c11
          exact j_63  
        · have f7 : r8.toInt ≠ 0 := i_ne (a := r8.toInt) (b := 0) rfl rfl c11
          have j_50 : ∀ (s0_50 : Int32), ((s0_50.toInt = 1) ∨ (p1.toInt = 1 ∧ 0 ≤ s0_50.toInt ∧ s0_50.toInt ≤ 1) ∨ (s0_50.toInt = 0)) → w_X10_isTakenBy_50 Q (w_X10_isTakenBy_2 p1 v_count v_sort v_end v_value v_low v_high v_mayBeEmpty Q n_2) s0_50 l2_2 := by
            intro s0_50 f8
            unfold w_X10_isTakenBy_50
            refine ⟨fun c52 => ?_, fun c52 => ?_⟩
            · have f9 : s0_50.toInt ≠ 0 := i_ne (a := s0_50.toInt) (b := 0) rfl rfl c52
              intro x57 ex57
              have f10 : x57.toInt = l2_2.toInt + 1 := i_add (a := l2_2.toInt) (b := 1) ex57 rfl rfl (by omega) (by omega)
              exact ih_2 x57 (by omega) (by omega) (by have h8_0 := i_rng l2_2; have h8_1 := i_rng x57; omega)
            · have f11 : s0_50.toInt = 0 := i_eq (a := s0_50.toInt) (b := 0) rfl rfl c52
              exact hq 0 (by omega)
          refine ⟨fun c16 => ?_, fun c16 => ?_⟩
          · have f12 : p1.toInt ≠ 1 := i_ne (a := p1.toInt) (b := 1) rfl rfl c16
            refine ok_X10_isParallel (by omega) (by omega) (rp_mono b0 (by omega) (by omega)) (fun r29 f13 f14 => ?_)
            have j_49 : w_X10_isTakenBy_49 Q (w_X10_isTakenBy_2 p1 v_count v_sort v_end v_value v_low v_high v_mayBeEmpty Q n_2) l2_2 := by
              unfold w_X10_isTakenBy_49
              exact j_50 0 (by omega)
            refine ⟨fun c32 => ?_, fun c32 => ?_⟩
            · have f15 : r29.toInt = 0 := i_eq (a := r29.toInt) (b := 0) rfl rfl c32
              exact j_49  
            · have f16 : r29.toInt ≠ 0 := i_ne (a := r29.toInt) (b := 0) rfl rfl c32
              refine ⟨i_in (by omega) (by omega), ?_⟩
              intro x40 ex40
              refine ⟨fun c42 => ?_, fun c42 => ?_⟩
              · have f17 : x40.toInt = 3 := i_eq (a := x40.toInt) (b := 3) rfl rfl c42
                exact j_49  
              · have f18 : x40.toInt ≠ 3 := i_ne (a := x40.toInt) (b := 3) rfl rfl c42
                exact j_50 1 (by omega)
          · have f19 : p1.toInt = 1 := i_eq (a := p1.toInt) (b := 1) rfl rfl c16
            refine ok_X10_isParallel (by omega) (by omega) (rp_mono b0 (by omega) (by omega)) (fun r21 f20 f21 => ?_)
            exact j_50 r21 (by omega)
  exact ⟨(2147483648 : Int).toNat + 1, j_2   ((2147483648 : Int).toNat + 1) 0 (by omega) (by omega) (by omega)⟩
set_option maxHeartbeats 4000000 in
theorem ok_X10_deadRow {p1 : Int32} {v_count : Int32} {v_ranges : Int32} {v_sort : Nat → Int32} {v_holder : Nat → Int32} {v_end : Nat → Int32} {v_before : Nat → Int32} {v_parts : Nat → Int32} {v_value : Nat → Int32} {v_low : Nat → Int32} {v_high : Nat → Int32} {v_rangeBegin : Nat → Int32} {v_rangeEnd : Nat → Int32} {Q : Int32 → Prop} (a0 : 0 ≤ v_count.toInt) (a1 : v_count.toInt ≤ 256) (a2 : 0 ≤ v_ranges.toInt) (a3 : v_ranges.toInt ≤ 512) (b0 : rp (fun k v => k < v ∧ v ≤ 256) v_end 0 v_count.toInt) (b1 : rp (fun k v => v < k ∧ -1 ≤ v) v_holder 0 v_count.toInt) (b2 : rp (fun k v => v < k ∧ -1 ≤ v) v_before 0 v_count.toInt) (hq : ∀ (r : Int32), 0 ≤ r.toInt + 1 → r.toInt ≤ 255 → Q r) : w_X10_deadRow p1 v_count v_ranges v_sort v_holder v_end v_before v_parts v_value v_low v_high v_rangeBegin v_rangeEnd Q := by
  have q_t : (bz true).toInt = 1 := rfl
  have q_f : (bz false).toInt = 0 := rfl
  have q_m1 : ((-1) : Int32).toInt = (-1) := rfl
  have q_0 : (0 : Int32).toInt = 0 := rfl
  unfold w_X10_deadRow
  have j_4 : ∀ n_4 : Nat, ∀ (l2_4 : Int32) (l3_4 : Int32), 0 ≤ l2_4.toInt → l2_4.toInt ≤ l3_4.toInt → l3_4.toInt ≤ v_count.toInt → ((-1) * l3_4.toInt + 2147483648).toNat < n_4 → w_X10_deadRow_4 p1 v_count v_ranges v_sort v_holder v_end v_before v_parts v_value v_low v_high v_rangeBegin v_rangeEnd Q n_4 l2_4 l3_4 := by
    intro n_4
    induction n_4 with
    | zero =>
      intro l2_4 l3_4 f1 f2 f3 hm_4
      exfalso; omega
    | succ n_4 ih_4 =>
      intro l2_4 l3_4 f1 f2 f3 hm_4
      unfold w_X10_deadRow_4
      unfold w_X10_deadRow_4B
      refine ok_X10_has (by omega) (by omega) (fun r6 f4 => ?_)
      refine ⟨fun c9 => ?_, fun c9 => ?_⟩
      · have f5 : r6.toInt = 0 := i_eq (a := r6.toInt) (b := 0) rfl rfl c9
        exact hq (-1) (by omega) (by omega)
      · have f6 : r6.toInt ≠ 0 := i_ne (a := r6.toInt) (b := 0) rfl rfl c9
        refine ⟨i_in (by omega) (by omega), ?_⟩
        intro x18 ex18
        have f7 : x18.toInt + 1 ≤ l3_4.toInt ∧ 0 ≤ x18.toInt + 1 := by have h9 := rp_get (P := (fun k v => v < k ∧ -1 ≤ v)) (a := l3_4.toInt) b1 ex18 rfl (by omega) (by omega) (by omega); omega
        refine ok_X10_sortOf (by omega) (by omega) (fun r19 f8 => ?_)
        have j_58 : ∀ (l2_58 : Int32), l2_4.toInt ≤ l2_58.toInt → l2_58.toInt ≤ l2_4.toInt + 1 → ((l2_58.toInt = l2_4.toInt) ∨ (r19.toInt = 6 ∧ x18.toInt + 1 ≤ l3_4.toInt ∧ 0 ≤ x18.toInt + 1 ∧ l2_58.toInt = l2_4.toInt + 1) ∨ (l2_58.toInt = l2_4.toInt ∧ r19.toInt = 6 ∧ x18.toInt + 1 ≤ l3_4.toInt ∧ 0 ≤ x18.toInt + 1)) → w_X10_deadRow_58 Q (w_X10_deadRow_4 p1 v_count v_ranges v_sort v_holder v_end v_before v_parts v_value v_low v_high v_rangeBegin v_rangeEnd Q n_4) l2_58 l3_4 := by
          intro l2_58 f9 f10 f11
          unfold w_X10_deadRow_58
          intro x58 ex58
          have f12 : x58.toInt = l3_4.toInt + 1 := i_add (a := l3_4.toInt) (b := 1) ex58 rfl rfl (by omega) (by omega)
          exact ih_4 l2_58 x58 (by omega) (by omega) (by omega) (by have h8_0 := i_rng l3_4; have h8_1 := i_rng x58; omega)
        refine ⟨fun c24 => ?_, fun c24 => ?_⟩
        · have f13 : r19.toInt ≠ 6 := i_ne (a := r19.toInt) (b := 6) rfl rfl c24
          exact j_58 l2_4 (by omega) (by omega) (by omega)
        · have f14 : r19.toInt = 6 := i_eq (a := r19.toInt) (b := 6) rfl rfl c24
          refine ⟨i_in (by omega) (by omega), ?_⟩
          intro x32 ex32
          have f15 : x32.toInt = x18.toInt := congrArg Int32.toInt (ex32.trans ex18.symm)
          have f16 : x32.toInt + 1 ≤ l3_4.toInt ∧ 0 ≤ x32.toInt + 1 := by have h9 := rp_get (P := (fun k v => v < k ∧ -1 ≤ v)) (a := l3_4.toInt) b1 ex32 rfl (by omega) (by omega) (by omega); omega
          refine ⟨fun c34 => ?_, fun c34 => ?_⟩
          · have f17 : x32.toInt = (-1) := i_eq (a := x32.toInt) (b := (-1)) rfl rfl c34
            exfalso; omega
          · have f18 : x32.toInt ≠ (-1) := i_ne (a := x32.toInt) (b := (-1)) rfl rfl c34
            refine ok_X10_isSaidAhead (by omega) (by omega) (by omega) (by omega) (rp_mono b0 (by omega) (by omega)) (rp_mono b2 (by omega) (by omega)) (fun r39 f19 => ?_)
            refine ⟨fun c42 => ?_, fun c42 => ?_⟩
            · have f20 : r39.toInt ≠ 0 := i_ne (a := r39.toInt) (b := 0) rfl rfl c42
              refine ⟨fun c50 => ?_, fun c50 => ?_⟩
              · have f21 : l2_4.toInt ≠ p1.toInt := i_ne (a := l2_4.toInt) (b := p1.toInt) rfl rfl c50
                intro x55 ex55
                have f22 : x55.toInt = l2_4.toInt + 1 := i_add (a := l2_4.toInt) (b := 1) ex55 rfl rfl (by omega) (by omega)
                exact j_58 x55 (by omega) (by omega) (by omega)
              · have f23 : l2_4.toInt = p1.toInt := i_eq (a := l2_4.toInt) (b := p1.toInt) rfl rfl c50
                exact hq l3_4 (by omega) (by omega)
            · have f24 : r39.toInt = 0 := i_eq (a := r39.toInt) (b := 0) rfl rfl c42
              exact j_58 l2_4 (by omega) (by omega) (by omega)
  exact ⟨(2147483648 : Int).toNat + 1, j_4   ((2147483648 : Int).toNat + 1) 0 0 (by omega) (by omega) (by omega) (by omega)⟩
set_option maxHeartbeats 4000000 in
theorem ok_X10_tellOfAll {p1 : Int32} {p2 : Int32} {v_count : Int32} {v_sort : Nat → Int32} {v_holder : Nat → Int32} {v_parts : Nat → Int32} {v_high : Nat → Int32} {v_size : Nat → Int32} {v_positions : Nat → Int32} {v_mayBeEmpty : Nat → Bool} {v_withinCase : Nat → Bool} {Q : Int32 → Prop} (a0 : 0 ≤ v_count.toInt) (a1 : v_count.toInt ≤ 256) (b0 : rp (fun k v => v < k ∧ -1 ≤ v) v_holder 0 v_count.toInt) (hq : ∀ (r : Int32), Q r) : w_X10_tellOfAll p1 p2 v_count v_sort v_holder v_parts v_high v_size v_positions v_mayBeEmpty v_withinCase Q := by
  have q_t : (bz true).toInt = 1 := rfl
  have q_f : (bz false).toInt = 0 := rfl
  have q_m4 : ((-4) : Int32).toInt = (-4) := rfl
  have q_0 : (0 : Int32).toInt = 0 := rfl
  have q_1 : (1 : Int32).toInt = 1 := rfl
  unfold w_X10_tellOfAll
  refine ok_X10_has (by omega) (by omega) (fun r2 f1 => ?_)
  refine ⟨fun c5 => ?_, fun c5 => ?_⟩
  · have f2 : r2.toInt ≠ 0 := i_ne (a := r2.toInt) (b := 0) rfl rfl c5
    refine ⟨fun c12_0 => ?_, fun c12_1 => ?_, fun c12_2 => ?_, fun c12_3 => ?_, fun c12_4 => ?_, fun c12_5 => ?_, ?_⟩
    · have f3 : p2.toInt = 0 := i_eq (a := p2.toInt) (b := 0) rfl rfl c12_0
      refine ⟨i_in (by omega) (by omega), ?_⟩
      intro x57 ex57
      exact hq x57 
    · have f4 : p2.toInt = 1 := i_eq (a := p2.toInt) (b := 1) rfl rfl c12_1
      refine ok_X10_partsOf (by omega) (by omega) (fun r61 f5 => ?_)
      exact hq r61 
    · have f6 : p2.toInt = 2 := i_eq (a := p2.toInt) (b := 2) rfl rfl c12_2
      refine ⟨i_in (by omega) (by omega), ?_⟩
      intro x70 ex70
      have f7 : x70.toInt + 1 ≤ p1.toInt ∧ 0 ≤ x70.toInt + 1 := by have h9 := rp_get (P := (fun k v => v < k ∧ -1 ≤ v)) (a := p1.toInt) b0 ex70 rfl (by omega) (by omega) (by omega); omega
      exact hq x70 
    · have f8 : p2.toInt = 3 := i_eq (a := p2.toInt) (b := 3) rfl rfl c12_3
      refine ⟨i_in (by omega) (by omega), ?_⟩
      intro x77 ex77
      exact hq x77 
    · have f9 : p2.toInt = 4 := i_eq (a := p2.toInt) (b := 4) rfl rfl c12_4
      refine ⟨i_in (by omega) (by omega), ?_⟩
      intro x84 ex84
      exact hq x84 
    · have f10 : p2.toInt = 5 := i_eq (a := p2.toInt) (b := 5) rfl rfl c12_5
      refine ⟨i_in (by omega) (by omega), ?_⟩
      intro x91 ex91
      have f11 : (0 ≤ x91.toInt ∧ x91.toInt ≤ 1) := i_bz ex91
      have j_100 : ∀ (s0_100 : Int32), ((s0_100.toInt = 0 ∧ x91.toInt = 0) ∨ (s0_100.toInt = 1)) → w_X10_tellOfAll_100 Q s0_100 := by
        intro s0_100 f12
        unfold w_X10_tellOfAll_100
        exact hq s0_100 
      refine ⟨fun c92 => ?_, fun c92 => ?_⟩
      · have f13 : x91.toInt = 0 := i_eq (a := x91.toInt) (b := 0) rfl rfl c92
        exact j_100 0 (by omega)
      · have f14 : x91.toInt ≠ 0 := i_ne (a := x91.toInt) (b := 0) rfl rfl c92
        exact j_100 1 (by omega)
    · intro c12_0 c12_1 c12_2 c12_3 c12_4 c12_5
      have f15 : p2.toInt ≠ 0 := i_ne (a := p2.toInt) (b := 0) rfl rfl c12_0
      have f16 : p2.toInt ≠ 1 := i_ne (a := p2.toInt) (b := 1) rfl rfl c12_1
      have f17 : p2.toInt ≠ 2 := i_ne (a := p2.toInt) (b := 2) rfl rfl c12_2
      have f18 : p2.toInt ≠ 3 := i_ne (a := p2.toInt) (b := 3) rfl rfl c12_3
      have f19 : p2.toInt ≠ 4 := i_ne (a := p2.toInt) (b := 4) rfl rfl c12_4
      have f20 : p2.toInt ≠ 5 := i_ne (a := p2.toInt) (b := 5) rfl rfl c12_5
      refine ⟨i_in (by omega) (by omega), ?_⟩
      intro x106 ex106
      have f21 : (0 ≤ x106.toInt ∧ x106.toInt ≤ 1) := i_bz ex106
      have j_115 : ∀ (s0_115 : Int32), ((s0_115.toInt = 0 ∧ x106.toInt = 0) ∨ (s0_115.toInt = 1)) → w_X10_tellOfAll_115 Q s0_115 := by
        intro s0_115 f22
        unfold w_X10_tellOfAll_115
        exact hq s0_115 
      refine ⟨fun c107 => ?_, fun c107 => ?_⟩
      · have f23 : x106.toInt = 0 := i_eq (a := x106.toInt) (b := 0) rfl rfl c107
        exact j_115 0 (by omega)
      · have f24 : x106.toInt ≠ 0 := i_ne (a := x106.toInt) (b := 0) rfl rfl c107
        exact j_115 1 (by omega)
  · have f25 : r2.toInt = 0 := i_eq (a := r2.toInt) (b := 0) rfl rfl c5
    exact hq (-4) 
set_option maxHeartbeats 4000000 in
theorem ok_X0_leastOf {p1 : Int32} {v_count : Int32} {v_begins : Nat → Int32} {Q : Int32 → Prop} (a0 : 0 ≤ v_count.toInt) (a1 : v_count.toInt ≤ 256) (hq : ∀ (r : Int32), ((0 ≤ p1.toInt ∧ p1.toInt + 1 ≤ v_count.toInt) ∨ (r.toInt = 0)) → Q r) : w_X0_leastOf p1 v_count v_begins Q := by
  have q_t : (bz true).toInt = 1 := rfl
  have q_f : (bz false).toInt = 0 := rfl
  have q_0 : (0 : Int32).toInt = 0 := rfl
  unfold w_X0_leastOf
  have j_22 : ∀ (s0_22 : Int32), ((0 ≤ p1.toInt ∧ p1.toInt + 1 ≤ v_count.toInt) ∨ (s0_22.toInt = 0)) → w_X0_leastOf_22 Q s0_22 := by
    intro s0_22 f1
    unfold w_X0_leastOf_22
    exact hq s0_22 (by omega)
  have j_21 : ((p1.toInt + 1 ≤ 0) ∨ (0 ≤ p1.toInt ∧ v_count.toInt ≤ p1.toInt)) → w_X0_leastOf_21 Q := by
    intro f2
    unfold w_X0_leastOf_21
    exact j_22 0 (by omega)
  refine ⟨fun c1 => ?_, fun c1 => ?_⟩
  · have f3 : p1.toInt < 0 := i_lt (a := p1.toInt) (b := 0) rfl rfl c1
    exact j_21  (by omega)
  · have f4 : 0 ≤ p1.toInt := i_nlt (a := p1.toInt) (b := 0) rfl rfl c1
    refine ⟨fun c9 => ?_, fun c9 => ?_⟩
    · have f5 : v_count.toInt ≤ p1.toInt := i_le (a := v_count.toInt) (b := p1.toInt) rfl rfl c9
      exact j_21  (by omega)
    · have f6 : p1.toInt < v_count.toInt := i_nle (a := v_count.toInt) (b := p1.toInt) rfl rfl c9
      refine ⟨i_in (by omega) (by omega), ?_⟩
      intro x17 ex17
      exact j_22 x17 (by omega)
set_option maxHeartbeats 4000000 in
theorem ok_X10_firstRisky {a1_count : Int32} {a1_begins : Nat → Int32} {v_count : Int32} {v_ranges : Int32} {v_sort : Nat → Int32} {v_holder : Nat → Int32} {v_end : Nat → Int32} {v_value : Nat → Int32} {v_low : Nat → Int32} {v_high : Nat → Int32} {v_mayBeEmpty : Nat → Bool} {v_withinCase : Nat → Bool} {v_marked : Nat → Bool} {v_rangeBegin : Nat → Int32} {v_rangeEnd : Nat → Int32} {Q : Int32 → (Nat → Bool) → Prop} (a0 : 0 ≤ a1_count.toInt) (a1 : a1_count.toInt ≤ 256) (a2 : 0 ≤ v_count.toInt) (a3 : v_count.toInt ≤ 256) (a4 : 0 ≤ v_ranges.toInt) (a5 : v_ranges.toInt ≤ 512) (b0 : rp (fun k v => k < v ∧ v ≤ 256) v_end 0 v_count.toInt) (b1 : rp (fun k v => v < k ∧ -1 ≤ v) v_holder 0 v_count.toInt) (hq : ∀ (r : Int32) (ov_marked : Nat → Bool), 0 ≤ r.toInt + 1 → r.toInt ≤ v_count.toInt → r.toInt + 1 ≤ v_count.toInt → r.toInt ≤ v_count.toInt + 1 → Q r ov_marked) : w_X10_firstRisky a1_count a1_begins v_count v_ranges v_sort v_holder v_end v_value v_low v_high v_mayBeEmpty v_withinCase v_marked v_rangeBegin v_rangeEnd Q := by
  have q_t : (bz true).toInt = 1 := rfl
  have q_f : (bz false).toInt = 0 := rfl
  have q_m1 : ((-1) : Int32).toInt = (-1) := rfl
  have q_0 : (0 : Int32).toInt = 0 := rfl
  unfold w_X10_firstRisky
  have j_4 : ∀ n_4 : Nat, ∀ (l2_4 : Int32) (l3_4 : Int32) (v_marked_4 : Nat → Bool), 0 ≤ l2_4.toInt + 1 → l2_4.toInt + 1 ≤ v_count.toInt → 0 ≤ l3_4.toInt → l3_4.toInt ≤ a1_count.toInt → ((-1) * l3_4.toInt + 2147483648).toNat < n_4 → w_X10_firstRisky_4 a1_count a1_begins v_count v_ranges v_sort v_holder v_end v_value v_low v_high v_mayBeEmpty v_withinCase v_rangeBegin v_rangeEnd Q n_4 l2_4 l3_4 v_marked_4 := by
    intro n_4
    induction n_4 with
    | zero =>
      intro l2_4 l3_4 v_marked_4 f1 f2 f3 f4 hm_4
      exfalso; omega
    | succ n_4 ih_4 =>
      intro l2_4 l3_4 v_marked_4 f1 f2 f3 f4 hm_4
      unfold w_X10_firstRisky_4
      unfold w_X10_firstRisky_4B
      refine ⟨fun c9 => ?_, fun c9 => ?_⟩
      · have f5 : a1_count.toInt ≤ l3_4.toInt := i_le (a := a1_count.toInt) (b := l3_4.toInt) rfl rfl c9
        exact hq l2_4 v_marked_4 (by omega) (by omega) (by omega) (by omega)
      · have f6 : l3_4.toInt < a1_count.toInt := i_nle (a := a1_count.toInt) (b := l3_4.toInt) rfl rfl c9
        refine ok_X0_leastOf (by omega) (by omega) (fun r15 f7 => ?_)
        refine ok_X10_markBeginning (by omega) (by omega) (by omega) (by omega) (rp_mono b0 (by omega) (by omega)) (rp_mono b1 (by omega) (by omega)) (fun r18_0 => ?_)
        have j_24 : ∀ n_24 : Nat, ∀ (l2_24 : Int32) (l4_24 : Int32), 0 ≤ l2_24.toInt + 1 → l2_24.toInt + 1 ≤ v_count.toInt → 0 ≤ l4_24.toInt → l4_24.toInt ≤ v_count.toInt → ((-1) * l4_24.toInt + 2147483648).toNat < n_24 → w_X10_firstRisky_24 v_count v_sort v_holder v_end v_high Q (w_X10_firstRisky_4 a1_count a1_begins v_count v_ranges v_sort v_holder v_end v_value v_low v_high v_mayBeEmpty v_withinCase v_rangeBegin v_rangeEnd Q n_4) l3_4 r18_0 n_24 l2_24 l4_24 := by
          intro n_24
          induction n_24 with
          | zero =>
            intro l2_24 l4_24 f8 f9 f10 f11 hm_24
            exfalso; omega
          | succ n_24 ih_24 =>
            intro l2_24 l4_24 f8 f9 f10 f11 hm_24
            unfold w_X10_firstRisky_24
            unfold w_X10_firstRisky_24B
            refine ok_X10_has (by omega) (by omega) (fun r27 f12 => ?_)
            refine ⟨fun c30 => ?_, fun c30 => ?_⟩
            · have f13 : r27.toInt = 0 := i_eq (a := r27.toInt) (b := 0) rfl rfl c30
              intro x93 ex93
              have f14 : x93.toInt = l3_4.toInt + 1 := i_add (a := l3_4.toInt) (b := 1) ex93 rfl rfl (by omega) (by omega)
              exact ih_4 l2_24 x93 r18_0 (by omega) (by omega) (by omega) (by omega) (by have h8_0 := i_rng l3_4; have h8_1 := i_rng x93; omega)
            · have f15 : r27.toInt ≠ 0 := i_ne (a := r27.toInt) (b := 0) rfl rfl c30
              refine ok_X10_isEndless (by omega) (by omega) (fun r36 f16 f17 => ?_)
              have j_65 : ∀ (s0_65 : Int32), ((0 ≤ s0_65.toInt + 1 ∧ s0_65.toInt ≤ v_count.toInt ∧ s0_65.toInt + 1 ≤ v_count.toInt ∧ s0_65.toInt ≤ v_count.toInt + 1) ∨ (s0_65.toInt + 1 = 0)) → w_X10_firstRisky_65 Q (w_X10_firstRisky_4 a1_count a1_begins v_count v_ranges v_sort v_holder v_end v_value v_low v_high v_mayBeEmpty v_withinCase v_rangeBegin v_rangeEnd Q n_4) (w_X10_firstRisky_24 v_count v_sort v_holder v_end v_high Q (w_X10_firstRisky_4 a1_count a1_begins v_count v_ranges v_sort v_holder v_end v_value v_low v_high v_mayBeEmpty v_withinCase v_rangeBegin v_rangeEnd Q n_4) l3_4 r18_0 n_24) s0_65 l2_24 l4_24 := by
                intro s0_65 f18
                unfold w_X10_firstRisky_65
                have j_87 : ∀ (l2_87 : Int32), ((l2_87.toInt = l2_24.toInt ∧ s0_65.toInt + 1 = 0) ∨ (l2_87.toInt = l2_24.toInt ∧ l2_24.toInt ≤ s0_65.toInt) ∨ (l2_87.toInt = s0_65.toInt)) → w_X10_firstRisky_87 Q (w_X10_firstRisky_4 a1_count a1_begins v_count v_ranges v_sort v_holder v_end v_value v_low v_high v_mayBeEmpty v_withinCase v_rangeBegin v_rangeEnd Q n_4) (w_X10_firstRisky_24 v_count v_sort v_holder v_end v_high Q (w_X10_firstRisky_4 a1_count a1_begins v_count v_ranges v_sort v_holder v_end v_value v_low v_high v_mayBeEmpty v_withinCase v_rangeBegin v_rangeEnd Q n_4) l3_4 r18_0 n_24) l2_87 l4_24 := by
                  intro l2_87 f19
                  unfold w_X10_firstRisky_87
                  intro x87 ex87
                  have f20 : x87.toInt = l4_24.toInt + 1 := i_add (a := l4_24.toInt) (b := 1) ex87 rfl rfl (by omega) (by omega)
                  exact ih_24 l2_87 x87 (by omega) (by omega) (by omega) (by omega) (by have h8_0 := i_rng l4_24; have h8_1 := i_rng x87; omega)
                refine ⟨fun c70 => ?_, fun c70 => ?_⟩
                · have f21 : s0_65.toInt = (-1) := i_eq (a := s0_65.toInt) (b := (-1)) rfl rfl c70
                  exact j_87 l2_24 (by omega)
                · have f22 : s0_65.toInt ≠ (-1) := i_ne (a := s0_65.toInt) (b := (-1)) rfl rfl c70
                  have j_84 : ((l2_24.toInt + 1 = 0) ∨ (s0_65.toInt + 1 ≤ l2_24.toInt)) → w_X10_firstRisky_84 Q (w_X10_firstRisky_4 a1_count a1_begins v_count v_ranges v_sort v_holder v_end v_value v_low v_high v_mayBeEmpty v_withinCase v_rangeBegin v_rangeEnd Q n_4) (w_X10_firstRisky_24 v_count v_sort v_holder v_end v_high Q (w_X10_firstRisky_4 a1_count a1_begins v_count v_ranges v_sort v_holder v_end v_value v_low v_high v_mayBeEmpty v_withinCase v_rangeBegin v_rangeEnd Q n_4) l3_4 r18_0 n_24) l4_24 s0_65 := by
                    intro f23
                    unfold w_X10_firstRisky_84
                    exact j_87 s0_65 (by omega)
                  refine ⟨fun c75 => ?_, fun c75 => ?_⟩
                  · have f24 : l2_24.toInt = (-1) := i_eq (a := l2_24.toInt) (b := (-1)) rfl rfl c75
                    exact j_84  (by omega)
                  · have f25 : l2_24.toInt ≠ (-1) := i_ne (a := l2_24.toInt) (b := (-1)) rfl rfl c75
                    refine ⟨fun c81 => ?_, fun c81 => ?_⟩
                    · have f26 : l2_24.toInt ≤ s0_65.toInt := i_le (a := l2_24.toInt) (b := s0_65.toInt) rfl rfl c81
                      exact j_87 l2_24 (by omega)
                    · have f27 : s0_65.toInt < l2_24.toInt := i_nle (a := l2_24.toInt) (b := s0_65.toInt) rfl rfl c81
                      exact j_84  (by omega)
              have j_64 : w_X10_firstRisky_64 Q (w_X10_firstRisky_4 a1_count a1_begins v_count v_ranges v_sort v_holder v_end v_value v_low v_high v_mayBeEmpty v_withinCase v_rangeBegin v_rangeEnd Q n_4) (w_X10_firstRisky_24 v_count v_sort v_holder v_end v_high Q (w_X10_firstRisky_4 a1_count a1_begins v_count v_ranges v_sort v_holder v_end v_value v_low v_high v_mayBeEmpty v_withinCase v_rangeBegin v_rangeEnd Q n_4) l3_4 r18_0 n_24) l2_24 l4_24 := by
                unfold w_X10_firstRisky_64
                exact j_65 (-1) (by omega)
              refine ⟨fun c39 => ?_, fun c39 => ?_⟩
              · have f28 : r36.toInt = 0 := i_eq (a := r36.toInt) (b := 0) rfl rfl c39
                exact j_64  
              · have f29 : r36.toInt ≠ 0 := i_ne (a := r36.toInt) (b := 0) rfl rfl c39
                refine ok_X10_firstOf (by omega) (by omega) (rp_mono b0 (by omega) (by omega)) (fun r46 f30 f31 => ?_)
                refine ok_X10_isMarked (by omega) (by omega) (fun r49 f32 => ?_)
                refine ⟨fun c52 => ?_, fun c52 => ?_⟩
                · have f33 : r49.toInt = 0 := i_eq (a := r49.toInt) (b := 0) rfl rfl c52
                  exact j_64  
                · have f34 : r49.toInt ≠ 0 := i_ne (a := r49.toInt) (b := 0) rfl rfl c52
                  refine ok_X10_outermostEndless (by omega) (by omega) (rp_mono b0 (by omega) (by omega)) (rp_mono b1 (by omega) (by omega)) (fun r58 f35 f36 f37 f38 => ?_)
                  exact j_65 r58 (by omega)
        exact ⟨(2147483648 : Int).toNat + 1, j_24   ((2147483648 : Int).toNat + 1) l2_4 0 (by omega) (by omega) (by omega) (by omega) (by omega)⟩
  exact ⟨(2147483648 : Int).toNat + 1, j_4   ((2147483648 : Int).toNat + 1) (-1) 0 v_marked (by omega) (by omega) (by omega) (by omega) (by omega)⟩

set_option maxHeartbeats 4000000 in
theorem ok_X0_addBegin {p1 : Int32} {v_count : Int32} {v_begins : Nat → Int32} {Q : Int32 → (Nat → Int32) → Prop} (a0 : 0 ≤ v_count.toInt) (a1 : v_count.toInt ≤ 256) (hq : ∀ (ov_count : Int32) (ov_begins : Nat → Int32), v_count.toInt ≤ ov_count.toInt → ((p1.toInt ≤ 65535 ∧ v_count.toInt ≤ 255 ∧ ov_count.toInt = v_count.toInt + 1) ∨ (ov_count.toInt = v_count.toInt)) → Q ov_count ov_begins) : w_X0_addBegin p1 v_count v_begins Q := by
  have q_t : (bz true).toInt = 1 := rfl
  have q_f : (bz false).toInt = 0 := rfl
  have q_0 : (0 : Int32).toInt = 0 := rfl
  have q_1 : (1 : Int32).toInt = 1 := rfl
  unfold w_X0_addBegin
  have j_2 : ∀ n_2 : Nat, ∀ (l2_2 : Int32), 0 ≤ l2_2.toInt → l2_2.toInt ≤ v_count.toInt → ((-1) * l2_2.toInt + 2147483648).toNat < n_2 → w_X0_addBegin_2 p1 Q v_count v_begins n_2 l2_2 := by
    intro n_2
    induction n_2 with
    | zero =>
      intro l2_2 f1 f2 hm_2
      exfalso; omega
    | succ n_2 ih_2 =>
      intro l2_2 f1 f2 hm_2
      unfold w_X0_addBegin_2
      unfold w_X0_addBegin_2B
      have j_26 : ((v_count.toInt ≤ l2_2.toInt) ∨ (l2_2.toInt + 1 ≤ v_count.toInt)) → w_X0_addBegin_26 p1 Q l2_2 v_count v_begins := by
        intro f3
        unfold w_X0_addBegin_26
        have j_49 : ∀ (s0_49 : Int32), ((s0_49.toInt = 1 ∧ l2_2.toInt + 1 ≤ v_count.toInt) ∨ (s0_49.toInt = 0)) → w_X0_addBegin_49 p1 Q s0_49 l2_2 v_count v_begins := by
          intro s0_49 f4
          unfold w_X0_addBegin_49
          have j_70 : w_X0_addBegin_70 Q v_count v_begins := by
            unfold w_X0_addBegin_70
            exact hq v_count v_begins (by omega) (by omega)
          refine ⟨fun c51 => ?_, fun c51 => ?_⟩
          · have f5 : s0_49.toInt ≠ 0 := i_ne (a := s0_49.toInt) (b := 0) rfl rfl c51
            exact j_70  
          · have f6 : s0_49.toInt = 0 := i_eq (a := s0_49.toInt) (b := 0) rfl rfl c51
            refine ⟨fun c57 => ?_, fun c57 => ?_⟩
            · have f7 : 65535 < p1.toInt := i_lt (a := 65535) (b := p1.toInt) rfl rfl c57
              exact j_70  
            · have f8 : p1.toInt ≤ 65535 := i_nlt (a := 65535) (b := p1.toInt) rfl rfl c57
              refine ⟨fun c67 => ?_, fun c67 => ?_⟩
              · have f9 : v_count.toInt < 256 := i_lt (a := v_count.toInt) (b := 256) rfl rfl c67
                have j_77 : ∀ n_77 : Nat, ∀ (l4_77 : Int32) (v_begins_77 : Nat → Int32), l2_2.toInt ≤ l4_77.toInt → l4_77.toInt ≤ v_count.toInt → (l4_77.toInt + 2147483649).toNat < n_77 → w_X0_addBegin_77 p1 Q l2_2 v_count n_77 l4_77 v_begins_77 := by
                  intro n_77
                  induction n_77 with
                  | zero =>
                    intro l4_77 v_begins_77 f10 f11 hm_77
                    exfalso; omega
                  | succ n_77 ih_77 =>
                    intro l4_77 v_begins_77 f10 f11 hm_77
                    unfold w_X0_addBegin_77
                    unfold w_X0_addBegin_77B
                    refine ⟨fun c80 => ?_, fun c80 => ?_⟩
                    · have f12 : l4_77.toInt ≤ l2_2.toInt := i_le (a := l4_77.toInt) (b := l2_2.toInt) rfl rfl c80
                      refine ⟨i_in (by omega) (by omega), ?_⟩
                      intro g111 eg111
                      intro x118 ex118
                      have f13 : x118.toInt = v_count.toInt + 1 := i_add (a := v_count.toInt) (b := 1) ex118 rfl rfl (by omega) (by omega)
                      exact hq x118 g111 (by omega) (by omega)
                    · have f14 : l2_2.toInt < l4_77.toInt := i_nle (a := l4_77.toInt) (b := l2_2.toInt) rfl rfl c80
                      intro x96 ex96
                      have f15 : x96.toInt = l4_77.toInt - 1 := i_sub (a := l4_77.toInt) (b := 1) ex96 rfl rfl (by omega) (by omega)
                      refine ⟨i_in (by omega) (by omega), ?_⟩
                      intro x97 ex97
                      refine ⟨i_in (by omega) (by omega), ?_⟩
                      intro g98 eg98
                      intro x99 ex99
                      have f16 : x99.toInt = l4_77.toInt + (-1) := i_add (a := l4_77.toInt) (b := (-1)) ex99 rfl rfl (by omega) (by omega)
                      exact ih_77 x99 g98 (by omega) (by omega) (by have h8_0 := i_rng l4_77; have h8_1 := i_rng x99; omega)
                exact ⟨(v_count.toInt + 2147483649).toNat + 1, j_77   ((v_count.toInt + 2147483649).toNat + 1) v_count v_begins (by omega) (by omega) (by omega)⟩
              · have f17 : 256 ≤ v_count.toInt := i_nlt (a := v_count.toInt) (b := 256) rfl rfl c67
                exact j_70  
        have j_48 : ((v_count.toInt ≤ l2_2.toInt) ∨ (l2_2.toInt + 1 ≤ v_count.toInt)) → w_X0_addBegin_48 p1 Q l2_2 v_count v_begins := by
          intro f18
          unfold w_X0_addBegin_48
          exact j_49 0 (by omega)
        refine ⟨fun c31 => ?_, fun c31 => ?_⟩
        · have f19 : v_count.toInt ≤ l2_2.toInt := i_le (a := v_count.toInt) (b := l2_2.toInt) rfl rfl c31
          exact j_48  (by omega)
        · have f20 : l2_2.toInt < v_count.toInt := i_nle (a := v_count.toInt) (b := l2_2.toInt) rfl rfl c31
          refine ⟨i_in (by omega) (by omega), ?_⟩
          intro x39 ex39
          refine ⟨fun c41 => ?_, fun c41 => ?_⟩
          · have f21 : x39.toInt ≠ p1.toInt := i_ne (a := x39.toInt) (b := p1.toInt) rfl rfl c41
            exact j_48  (by omega)
          · have f22 : x39.toInt = p1.toInt := i_eq (a := x39.toInt) (b := p1.toInt) rfl rfl c41
            exact j_49 1 (by omega)
      refine ⟨fun c7 => ?_, fun c7 => ?_⟩
      · have f23 : v_count.toInt ≤ l2_2.toInt := i_le (a := v_count.toInt) (b := l2_2.toInt) rfl rfl c7
        exact j_26  (by omega)
      · have f24 : l2_2.toInt < v_count.toInt := i_nle (a := v_count.toInt) (b := l2_2.toInt) rfl rfl c7
        refine ⟨i_in (by omega) (by omega), ?_⟩
        intro x15 ex15
        refine ⟨fun c17 => ?_, fun c17 => ?_⟩
        · have f25 : p1.toInt ≤ x15.toInt := i_le (a := p1.toInt) (b := x15.toInt) rfl rfl c17
          exact j_26  (by omega)
        · have f26 : x15.toInt < p1.toInt := i_nle (a := p1.toInt) (b := x15.toInt) rfl rfl c17
          intro x20 ex20
          have f27 : x20.toInt = l2_2.toInt + 1 := i_add (a := l2_2.toInt) (b := 1) ex20 rfl rfl (by omega) (by omega)
          exact ih_2 x20 (by omega) (by omega) (by have h8_0 := i_rng l2_2; have h8_1 := i_rng x20; omega)
  exact ⟨(2147483648 : Int).toNat + 1, j_2   ((2147483648 : Int).toNat + 1) 0 (by omega) (by omega) (by omega)⟩
set_option maxHeartbeats 4000000 in
theorem ok_X0_addRange {p1 : Int32} {p2 : Int32} {p3 : Int32} {v_count : Int32} {v_begins : Nat → Int32} {Q : Int32 → (Nat → Int32) → Prop} (a0 : 0 ≤ v_count.toInt) (a1 : v_count.toInt ≤ 256) (a2 : 0 ≤ p3.toInt) (a3 : p3.toInt ≤ 1) (hq : ∀ (ov_count : Int32) (ov_begins : Nat → Int32), 0 ≤ ov_count.toInt → ov_count.toInt ≤ 256 → v_count.toInt ≤ ov_count.toInt → Q ov_count ov_begins) : w_X0_addRange p1 p2 p3 v_count v_begins Q := by
  have q_t : (bz true).toInt = 1 := rfl
  have q_f : (bz false).toInt = 0 := rfl
  unfold w_X0_addRange
  refine ok_X0_addBegin (by omega) (by omega) (fun r2_0 r2_1 f1 f2 => ?_)
  intro x8 ex8
  refine ok_X0_addBegin (by omega) (by omega) (fun r9_0 r9_1 f3 f4 => ?_)
  have j_54 : ∀ (v_count_54 : Int32) (v_begins_54 : Nat → Int32), 0 ≤ v_count_54.toInt → v_count_54.toInt ≤ 256 → v_count.toInt ≤ v_count_54.toInt → w_X0_addRange_54 p1 p2 p3 Q v_count_54 v_begins_54 := by
    intro v_count_54 v_begins_54 f5 f6 f7
    unfold w_X0_addRange_54
    have j_96 : ∀ (v_count_96 : Int32) (v_begins_96 : Nat → Int32), 0 ≤ v_count_96.toInt → v_count_96.toInt ≤ 256 → v_count.toInt ≤ v_count_96.toInt → w_X0_addRange_96 Q v_count_96 v_begins_96 := by
      intro v_count_96 v_begins_96 f8 f9 f10
      unfold w_X0_addRange_96
      exact hq v_count_96 v_begins_96 (by omega) (by omega) (by omega)
    refine ⟨fun c55 => ?_, fun c55 => ?_⟩
    · have f11 : p3.toInt = 0 := i_eq (a := p3.toInt) (b := 0) rfl rfl c55
      exact j_96 v_count_54 v_begins_54 (by omega) (by omega) (by omega)
    · have f12 : p3.toInt ≠ 0 := i_ne (a := p3.toInt) (b := 0) rfl rfl c55
      refine ⟨fun c61 => ?_, fun c61 => ?_⟩
      · have f13 : 122 < p1.toInt := i_lt (a := 122) (b := p1.toInt) rfl rfl c61
        exact j_96 v_count_54 v_begins_54 (by omega) (by omega) (by omega)
      · have f14 : p1.toInt ≤ 122 := i_nlt (a := 122) (b := p1.toInt) rfl rfl c61
        refine ⟨fun c67 => ?_, fun c67 => ?_⟩
        · have f15 : p2.toInt < 97 := i_lt (a := p2.toInt) (b := 97) rfl rfl c67
          exact j_96 v_count_54 v_begins_54 (by omega) (by omega) (by omega)
        · have f16 : 97 ≤ p2.toInt := i_nlt (a := p2.toInt) (b := 97) rfl rfl c67
          intro x74 ex74
          have f17 : ((x74.toInt = p1.toInt ∧ 97 ≤ p1.toInt) ∨ (x74.toInt = 97 ∧ p1.toInt ≤ 97)) := by have h9 := i_max (a := p1.toInt) (b := 97) ex74 rfl rfl; omega
          intro x79 ex79
          have f18 : x79.toInt = x74.toInt - 32 := i_sub (a := x74.toInt) (b := 32) ex79 rfl rfl (by omega) (by omega)
          refine ok_X0_addBegin (by omega) (by omega) (fun r80_0 r80_1 f19 f20 => ?_)
          intro x87 ex87
          have f21 : ((x87.toInt = p2.toInt ∧ p2.toInt ≤ 122) ∨ (x87.toInt = 122 ∧ 122 ≤ p2.toInt)) := by have h9 := i_min (a := 122) (b := p2.toInt) ex87 rfl rfl; omega
          intro x92 ex92
          have f22 : x92.toInt = x87.toInt - 31 := i_sub (a := x87.toInt) (b := 31) ex92 rfl rfl (by omega) (by omega)
          refine ok_X0_addBegin (by omega) (by omega) (fun r93_0 r93_1 f23 f24 => ?_)
          exact j_96 r93_0 r93_1 (by omega) (by omega) (by omega)
  refine ⟨fun c13 => ?_, fun c13 => ?_⟩
  · have f25 : p3.toInt = 0 := i_eq (a := p3.toInt) (b := 0) rfl rfl c13
    exact j_54 r9_0 r9_1 (by omega) (by omega) (by omega)
  · have f26 : p3.toInt ≠ 0 := i_ne (a := p3.toInt) (b := 0) rfl rfl c13
    refine ⟨fun c19 => ?_, fun c19 => ?_⟩
    · have f27 : 90 < p1.toInt := i_lt (a := 90) (b := p1.toInt) rfl rfl c19
      exact j_54 r9_0 r9_1 (by omega) (by omega) (by omega)
    · have f28 : p1.toInt ≤ 90 := i_nlt (a := 90) (b := p1.toInt) rfl rfl c19
      refine ⟨fun c25 => ?_, fun c25 => ?_⟩
      · have f29 : p2.toInt < 65 := i_lt (a := p2.toInt) (b := 65) rfl rfl c25
        exact j_54 r9_0 r9_1 (by omega) (by omega) (by omega)
      · have f30 : 65 ≤ p2.toInt := i_nlt (a := p2.toInt) (b := 65) rfl rfl c25
        intro x32 ex32
        have f31 : ((x32.toInt = p1.toInt ∧ 65 ≤ p1.toInt) ∨ (x32.toInt = 65 ∧ p1.toInt ≤ 65)) := by have h9 := i_max (a := p1.toInt) (b := 65) ex32 rfl rfl; omega
        intro x37 ex37
        have f32 : x37.toInt = x32.toInt + 32 := i_add (a := x32.toInt) (b := 32) ex37 rfl rfl (by omega) (by omega)
        refine ok_X0_addBegin (by omega) (by omega) (fun r38_0 r38_1 f33 f34 => ?_)
        intro x45 ex45
        have f35 : ((x45.toInt = p2.toInt ∧ p2.toInt ≤ 90) ∨ (x45.toInt = 90 ∧ 90 ≤ p2.toInt)) := by have h9 := i_min (a := 90) (b := p2.toInt) ex45 rfl rfl; omega
        intro x50 ex50
        have f36 : x50.toInt = x45.toInt + 33 := i_add (a := x45.toInt) (b := 33) ex50 rfl rfl (by omega) (by omega)
        refine ok_X0_addBegin (by omega) (by omega) (fun r51_0 r51_1 f37 f38 => ?_)
        exact j_54 r51_0 r51_1 (by omega) (by omega) (by omega)
set_option maxHeartbeats 4000000 in
theorem ok_X0_addParts {p2 : Int32} {v_count : Int32} {v_begins : Nat → Int32} {a1_count : Int32} {a1_ranges : Int32} {a1_sort : Nat → Int32} {a1_parts : Nat → Int32} {a1_low : Nat → Int32} {a1_high : Nat → Int32} {a1_withinCase : Nat → Bool} {a1_rangeBegin : Nat → Int32} {a1_rangeEnd : Nat → Int32} {Q : Int32 → (Nat → Int32) → Prop} (a0 : 0 ≤ v_count.toInt) (a1 : v_count.toInt ≤ 256) (a2 : 0 ≤ a1_count.toInt) (a3 : a1_count.toInt ≤ 256) (a4 : 0 ≤ a1_ranges.toInt) (a5 : a1_ranges.toInt ≤ 512) (hq : ∀ (ov_count : Int32) (ov_begins : Nat → Int32), 0 ≤ ov_count.toInt + 1 → 0 ≤ ov_count.toInt → ov_count.toInt ≤ 256 → v_count.toInt ≤ ov_count.toInt → Q ov_count ov_begins) : w_X0_addParts p2 v_count v_begins a1_count a1_ranges a1_sort a1_parts a1_low a1_high a1_withinCase a1_rangeBegin a1_rangeEnd Q := by
  have q_t : (bz true).toInt = 1 := rfl
  have q_f : (bz false).toInt = 0 := rfl
  have q_0 : (0 : Int32).toInt = 0 := rfl
  unfold w_X0_addParts
  have j_2 : ∀ n_2 : Nat, ∀ (l3_2 : Int32) (v_count_2 : Int32) (v_begins_2 : Nat → Int32), 0 ≤ l3_2.toInt → v_count.toInt ≤ v_count_2.toInt → v_count_2.toInt ≤ 256 → ((-1) * l3_2.toInt + 2147483648).toNat < n_2 → w_X0_addParts_2 p2 a1_count a1_ranges a1_sort a1_parts a1_low a1_high a1_withinCase a1_rangeBegin a1_rangeEnd Q n_2 l3_2 v_count_2 v_begins_2 := by
    intro n_2
    induction n_2 with
    | zero =>
      intro l3_2 v_count_2 v_begins_2 f1 f2 f3 hm_2
      exfalso; omega
    | succ n_2 ih_2 =>
      intro l3_2 v_count_2 v_begins_2 f1 f2 f3 hm_2
      unfold w_X0_addParts_2
      unfold w_X0_addParts_2B
      refine ok_X10_partsOf (by omega) (by omega) (fun r5 f4 => ?_)
      refine ⟨fun c8 => ?_, fun c8 => ?_⟩
      · have f5 : r5.toInt ≤ l3_2.toInt := i_le (a := r5.toInt) (b := l3_2.toInt) rfl rfl c8
        exact hq v_count_2 v_begins_2 (by omega) (by omega) (by omega) (by omega)
      · have f6 : l3_2.toInt < r5.toInt := i_nle (a := r5.toInt) (b := l3_2.toInt) rfl rfl c8
        refine ok_X10_partBegin (by omega) (by omega) (by omega) (by omega) (fun r15 => ?_)
        refine ok_X10_partEnd (by omega) (by omega) (by omega) (by omega) (fun r21 => ?_)
        refine ok_X10_isWithinCase (by omega) (by omega) (fun r26 f7 => ?_)
        refine ok_X0_addRange (by omega) (by omega) (by omega) (by omega) (fun r29_0 r29_1 f8 f9 f10 => ?_)
        intro x32 ex32
        have f11 : x32.toInt = l3_2.toInt + 1 := i_add (a := l3_2.toInt) (b := 1) ex32 rfl rfl (by omega) (by have h8_0 := i_rng a1_count; have h8_1 := i_rng l3_2; have h8_2 := i_rng p2; have h8_3 := i_rng r26; have h8_4 := i_rng r5; omega)
        exact ih_2 x32 r29_0 r29_1 (by omega) (by omega) (by omega) (by have h8_0 := i_rng l3_2; have h8_1 := i_rng x32; omega)
  exact ⟨(2147483648 : Int).toNat + 1, j_2   ((2147483648 : Int).toNat + 1) 0 v_count v_begins (by omega) (by omega) (by omega) (by omega)⟩
set_option maxHeartbeats 4000000 in
theorem ok_X0_addTree {v_count : Int32} {v_begins : Nat → Int32} {a1_count : Int32} {a1_ranges : Int32} {a1_sort : Nat → Int32} {a1_parts : Nat → Int32} {a1_value : Nat → Int32} {a1_low : Nat → Int32} {a1_high : Nat → Int32} {a1_withinCase : Nat → Bool} {a1_rangeBegin : Nat → Int32} {a1_rangeEnd : Nat → Int32} {Q : Int32 → (Nat → Int32) → Prop} (a0 : 0 ≤ v_count.toInt) (a1 : v_count.toInt ≤ 256) (a2 : 0 ≤ a1_count.toInt) (a3 : a1_count.toInt ≤ 256) (a4 : 0 ≤ a1_ranges.toInt) (a5 : a1_ranges.toInt ≤ 512) (hq : ∀ (ov_count : Int32) (ov_begins : Nat → Int32), 0 ≤ ov_count.toInt + 1 → 0 ≤ ov_count.toInt → ov_count.toInt ≤ 256 → v_count.toInt ≤ ov_count.toInt → Q ov_count ov_begins) : w_X0_addTree v_count v_begins a1_count a1_ranges a1_sort a1_parts a1_value a1_low a1_high a1_withinCase a1_rangeBegin a1_rangeEnd Q := by
  have q_t : (bz true).toInt = 1 := rfl
  have q_f : (bz false).toInt = 0 := rfl
  have q_0 : (0 : Int32).toInt = 0 := rfl
  have q_10 : (10 : Int32).toInt = 10 := rfl
  unfold w_X0_addTree
  have j_2 : ∀ n_2 : Nat, ∀ (l2_2 : Int32) (v_count_2 : Int32) (v_begins_2 : Nat → Int32), 0 ≤ l2_2.toInt → l2_2.toInt ≤ a1_count.toInt → v_count.toInt ≤ v_count_2.toInt → v_count_2.toInt ≤ 256 → ((-1) * l2_2.toInt + 2147483648).toNat < n_2 → w_X0_addTree_2 a1_count a1_ranges a1_sort a1_parts a1_value a1_low a1_high a1_withinCase a1_rangeBegin a1_rangeEnd Q n_2 l2_2 v_count_2 v_begins_2 := by
    intro n_2
    induction n_2 with
    | zero =>
      intro l2_2 v_count_2 v_begins_2 f1 f2 f3 f4 hm_2
      exfalso; omega
    | succ n_2 ih_2 =>
      intro l2_2 v_count_2 v_begins_2 f1 f2 f3 f4 hm_2
      unfold w_X0_addTree_2
      unfold w_X0_addTree_2B
      refine ok_X10_has (by omega) (by omega) (fun r4 f5 => ?_)
      refine ⟨fun c7 => ?_, fun c7 => ?_⟩
      · have f6 : r4.toInt = 0 := i_eq (a := r4.toInt) (b := 0) rfl rfl c7
        exact hq v_count_2 v_begins_2 (by omega) (by omega) (by omega) (by omega)
      · have f7 : r4.toInt ≠ 0 := i_ne (a := r4.toInt) (b := 0) rfl rfl c7
        refine ok_X10_sortOf (by omega) (by omega) (fun r12 f8 => ?_)
        have j_83 : ∀ (v_count_83 : Int32) (v_begins_83 : Nat → Int32), 0 ≤ v_count_83.toInt → v_count_83.toInt ≤ 256 → v_count.toInt ≤ v_count_83.toInt → v_count_2.toInt ≤ v_count_83.toInt → w_X0_addTree_83 Q (w_X0_addTree_2 a1_count a1_ranges a1_sort a1_parts a1_value a1_low a1_high a1_withinCase a1_rangeBegin a1_rangeEnd Q n_2) l2_2 v_count_83 v_begins_83 := by
          intro v_count_83 v_begins_83 f9 f10 f11 f12
          unfold w_X0_addTree_83
          intro x83 ex83
          have f13 : x83.toInt = l2_2.toInt + 1 := i_add (a := l2_2.toInt) (b := 1) ex83 rfl rfl (by omega) (by omega)
          exact ih_2 x83 v_count_83 v_begins_83 (by omega) (by omega) (by omega) (by omega) (by have h8_0 := i_rng l2_2; have h8_1 := i_rng x83; omega)
        refine ⟨fun c15_0 => ?_, fun c15_1 => ?_, fun c15_2 => ?_, ?_⟩
        · have f14 : r12.toInt = 0 := i_eq (a := r12.toInt) (b := 0) rfl rfl c15_0
          refine ok_X10_valueOf (by omega) (by omega) (fun r43 f15 => ?_)
          refine ok_X10_valueOf (by omega) (by omega) (fun r48 f16 => ?_)
          refine ok_X10_isWithinCase (by omega) (by omega) (fun r53 f17 => ?_)
          refine ok_X0_addRange (by omega) (by omega) (by omega) (by omega) (fun r56_0 r56_1 f18 f19 f20 => ?_)
          exact j_83 r56_0 r56_1 (by omega) (by omega) (by omega) (by omega)
        · have f21 : r12.toInt = 1 := i_eq (a := r12.toInt) (b := 1) rfl rfl c15_1
          refine ok_X0_addRange (by omega) (by omega) (by omega) (by omega) (fun r68_0 r68_1 f22 f23 f24 => ?_)
          exact j_83 r68_0 r68_1 (by omega) (by omega) (by omega) (by omega)
        · have f25 : r12.toInt = 2 := i_eq (a := r12.toInt) (b := 2) rfl rfl c15_2
          refine ok_X0_addParts (by omega) (by omega) (by omega) (by omega) (by omega) (by omega) (fun r77_0 r77_1 f26 f27 f28 f29 => ?_)
          exact j_83 r77_0 r77_1 (by omega) (by omega) (by omega) (by omega)
        · intro c15_0 c15_1 c15_2
          have f30 : r12.toInt ≠ 0 := i_ne (a := r12.toInt) (b := 0) rfl rfl c15_0
          have f31 : r12.toInt ≠ 1 := i_ne (a := r12.toInt) (b := 1) rfl rfl c15_1
          have f32 : r12.toInt ≠ 2 := i_ne (a := r12.toInt) (b := 2) rfl rfl c15_2
          exact j_83 v_count_2 v_begins_2 (by omega) (by omega) (by omega) (by omega)
  exact ⟨(2147483648 : Int).toNat + 1, j_2   ((2147483648 : Int).toNat + 1) 0 v_count v_begins (by omega) (by omega) (by omega) (by omega) (by omega)⟩
set_option maxHeartbeats 4000000 in
theorem ok_X0_gather {v_begins : Nat → Int32} {a1_count : Int32} {a1_ranges : Int32} {a1_sort : Nat → Int32} {a1_parts : Nat → Int32} {a1_value : Nat → Int32} {a1_low : Nat → Int32} {a1_high : Nat → Int32} {a1_withinCase : Nat → Bool} {a1_rangeBegin : Nat → Int32} {a1_rangeEnd : Nat → Int32} {Q : Int32 → (Nat → Int32) → Prop} (a0 : 0 ≤ a1_count.toInt) (a1 : a1_count.toInt ≤ 256) (a2 : 0 ≤ a1_ranges.toInt) (a3 : a1_ranges.toInt ≤ 512) (hq : ∀ (ov_count : Int32) (ov_begins : Nat → Int32), 0 ≤ ov_count.toInt + 1 → 0 ≤ ov_count.toInt → ov_count.toInt ≤ 256 → 1 ≤ ov_count.toInt → Q ov_count ov_begins) : w_X0_gather v_begins a1_count a1_ranges a1_sort a1_parts a1_value a1_low a1_high a1_withinCase a1_rangeBegin a1_rangeEnd Q := by
  have q_t : (bz true).toInt = 1 := rfl
  have q_f : (bz false).toInt = 0 := rfl
  have q_1 : (1 : Int32).toInt = 1 := rfl
  unfold w_X0_gather
  intro g11 eg11
  refine ok_X0_addTree (by omega) (by omega) (by omega) (by omega) (by omega) (by omega) (fun r14_0 r14_1 f1 f2 f3 f4 => ?_)
  refine ok_X0_addTree (by omega) (by omega) (by omega) (by omega) (by omega) (by omega) (fun r23_0 r23_1 f5 f6 f7 f8 => ?_)
  exact hq r23_0 r23_1 (by omega) (by omega) (by omega) (by omega)
set_option maxHeartbeats 4000000 in
theorem ok_X0_classOf {p1 : Int32} {v_count : Int32} {v_begins : Nat → Int32} {Q : Int32 → Prop} (a0 : 0 ≤ v_count.toInt) (a1 : v_count.toInt ≤ 256) (hq : ∀ (r : Int32), 0 ≤ r.toInt + 1 → 0 ≤ r.toInt → r.toInt ≤ v_count.toInt → r.toInt ≤ v_count.toInt + 1 → 0 ≤ r.toInt + 2 → ((v_count.toInt ≤ r.toInt + 1) ∨ (r.toInt + 2 ≤ v_count.toInt)) → Q r) : w_X0_classOf p1 v_count v_begins Q := by
  have q_t : (bz true).toInt = 1 := rfl
  have q_f : (bz false).toInt = 0 := rfl
  have q_0 : (0 : Int32).toInt = 0 := rfl
  have q_1 : (1 : Int32).toInt = 1 := rfl
  unfold w_X0_classOf
  have j_4 : ∀ n_4 : Nat, ∀ (l2_4 : Int32) (l3_4 : Int32), 1 ≤ l3_4.toInt → l3_4.toInt ≤ v_count.toInt + 1 → l3_4.toInt = l2_4.toInt + 1 → ((-1) * l2_4.toInt + 2147483648).toNat < n_4 → w_X0_classOf_4 p1 v_count v_begins Q n_4 l2_4 l3_4 := by
    intro n_4
    induction n_4 with
    | zero =>
      intro l2_4 l3_4 f1 f2 f3 hm_4
      exfalso; omega
    | succ n_4 ih_4 =>
      intro l2_4 l3_4 f1 f2 f3 hm_4
      unfold w_X0_classOf_4
      unfold w_X0_classOf_4B
      have j_30 : ((v_count.toInt ≤ l3_4.toInt) ∨ (l3_4.toInt + 1 ≤ v_count.toInt)) → w_X0_classOf_30 Q l2_4 := by
        intro f4
        unfold w_X0_classOf_30
        exact hq l2_4 (by omega) (by omega) (by omega) (by omega) (by omega) (by omega)
      refine ⟨fun c9 => ?_, fun c9 => ?_⟩
      · have f5 : v_count.toInt ≤ l3_4.toInt := i_le (a := v_count.toInt) (b := l3_4.toInt) rfl rfl c9
        exact j_30  (by omega)
      · have f6 : l3_4.toInt < v_count.toInt := i_nle (a := v_count.toInt) (b := l3_4.toInt) rfl rfl c9
        refine ⟨i_in (by omega) (by omega), ?_⟩
        intro x17 ex17
        refine ⟨fun c19 => ?_, fun c19 => ?_⟩
        · have f7 : p1.toInt < x17.toInt := i_lt (a := p1.toInt) (b := x17.toInt) rfl rfl c19
          exact j_30  (by omega)
        · have f8 : x17.toInt ≤ p1.toInt := i_nlt (a := p1.toInt) (b := x17.toInt) rfl rfl c19
          intro x24 ex24
          have f9 : x24.toInt = l3_4.toInt + 1 := i_add (a := l3_4.toInt) (b := 1) ex24 rfl rfl (by omega) (by omega)
          exact ih_4 l3_4 x24 (by omega) (by omega) (by omega) (by have h8_0 := i_rng l2_4; have h8_1 := i_rng l3_4; omega)
  exact ⟨(2147483648 : Int).toNat + 1, j_4   ((2147483648 : Int).toNat + 1) 0 1 (by omega) (by omega) (by omega) (by omega)⟩
set_option maxHeartbeats 4000000 in
theorem ok_X5_subjectOf {p1 : Int32} {v_count : Int32} {v_subjects : Nat → Int32} {Q : Int32 → Prop} (a0 : 0 ≤ v_count.toInt) (a1 : v_count.toInt ≤ 512) (hq : ∀ (r : Int32), ((0 ≤ p1.toInt ∧ p1.toInt + 1 ≤ v_count.toInt) ∨ (r.toInt + 1 = 0)) → Q r) : w_X5_subjectOf p1 v_count v_subjects Q := by
  have q_t : (bz true).toInt = 1 := rfl
  have q_f : (bz false).toInt = 0 := rfl
  have q_m1 : ((-1) : Int32).toInt = (-1) := rfl
  unfold w_X5_subjectOf
  have j_22 : ∀ (s0_22 : Int32), ((0 ≤ p1.toInt ∧ p1.toInt + 1 ≤ v_count.toInt) ∨ (s0_22.toInt + 1 = 0)) → w_X5_subjectOf_22 Q s0_22 := by
    intro s0_22 f1
    unfold w_X5_subjectOf_22
    exact hq s0_22 (by omega)
  have j_21 : ((p1.toInt + 1 ≤ 0) ∨ (0 ≤ p1.toInt ∧ v_count.toInt ≤ p1.toInt)) → w_X5_subjectOf_21 Q := by
    intro f2
    unfold w_X5_subjectOf_21
    exact j_22 (-1) (by omega)
  refine ⟨fun c1 => ?_, fun c1 => ?_⟩
  · have f3 : p1.toInt < 0 := i_lt (a := p1.toInt) (b := 0) rfl rfl c1
    exact j_21  (by omega)
  · have f4 : 0 ≤ p1.toInt := i_nlt (a := p1.toInt) (b := 0) rfl rfl c1
    refine ⟨fun c9 => ?_, fun c9 => ?_⟩
    · have f5 : v_count.toInt ≤ p1.toInt := i_le (a := v_count.toInt) (b := p1.toInt) rfl rfl c9
      exact j_21  (by omega)
    · have f6 : p1.toInt < v_count.toInt := i_nle (a := v_count.toInt) (b := p1.toInt) rfl rfl c9
      refine ⟨i_in (by omega) (by omega), ?_⟩
      intro x17 ex17
      exact j_22 x17 (by omega)
set_option maxHeartbeats 4000000 in
theorem ok_X5_takes {p1 : Int32} {p2 : Int32} {v_count : Int32} {v_subjects : Nat → Int32} {v_tree_count : Int32} {v_tree_ranges : Int32} {v_tree_sort : Nat → Int32} {v_tree_value : Nat → Int32} {v_tree_low : Nat → Int32} {v_tree_high : Nat → Int32} {v_tree_withinCase : Nat → Bool} {v_tree_rangeBegin : Nat → Int32} {v_tree_rangeEnd : Nat → Int32} {Q : Int32 → Prop} (a0 : 0 ≤ v_count.toInt) (a1 : v_count.toInt ≤ 512) (a2 : 0 ≤ v_tree_count.toInt) (a3 : v_tree_count.toInt ≤ 256) (a4 : 0 ≤ v_tree_ranges.toInt) (a5 : v_tree_ranges.toInt ≤ 512) (hq : ∀ (r : Int32), 0 ≤ r.toInt → r.toInt ≤ 1 → Q r) : w_X5_takes p1 p2 v_count v_subjects v_tree_count v_tree_ranges v_tree_sort v_tree_value v_tree_low v_tree_high v_tree_withinCase v_tree_rangeBegin v_tree_rangeEnd Q := by
  have q_t : (bz true).toInt = 1 := rfl
  have q_f : (bz false).toInt = 0 := rfl
  unfold w_X5_takes
  refine ok_X5_subjectOf (by omega) (by omega) (fun r6 f1 => ?_)
  refine ok_X10_takes (by omega) (by omega) (by omega) (by omega) (fun r10 f2 f3 => ?_)
  refine ⟨i_01 (by omega) (by omega), ?_⟩
  exact hq r10 (by omega) (by omega)
set_option maxHeartbeats 4000000 in
theorem ok_X5_has {p1 : Int32} {v_count : Int32} {Q : Int32 → Prop} (a0 : 0 ≤ v_count.toInt) (a1 : v_count.toInt ≤ 512) (hq : ∀ (r : Int32), ((r.toInt = 1 ∧ 0 ≤ p1.toInt ∧ p1.toInt + 1 ≤ v_count.toInt) ∨ (r.toInt = 0)) → Q r) : w_X5_has p1 v_count Q := by
  have q_t : (bz true).toInt = 1 := rfl
  have q_f : (bz false).toInt = 0 := rfl
  have q_0 : (0 : Int32).toInt = 0 := rfl
  have q_1 : (1 : Int32).toInt = 1 := rfl
  unfold w_X5_has
  have j_17 : ∀ (s0_17 : Int32), ((s0_17.toInt = 1 ∧ 0 ≤ p1.toInt ∧ p1.toInt + 1 ≤ v_count.toInt) ∨ (s0_17.toInt = 0)) → w_X5_has_17 Q s0_17 := by
    intro s0_17 f1
    unfold w_X5_has_17
    refine ⟨i_01 (by omega) (by omega), ?_⟩
    exact hq s0_17 (by omega)
  have j_16 : ((p1.toInt + 1 ≤ 0) ∨ (0 ≤ p1.toInt ∧ v_count.toInt ≤ p1.toInt)) → w_X5_has_16 Q := by
    intro f2
    unfold w_X5_has_16
    exact j_17 0 (by omega)
  refine ⟨fun c1 => ?_, fun c1 => ?_⟩
  · have f3 : p1.toInt < 0 := i_lt (a := p1.toInt) (b := 0) rfl rfl c1
    exact j_16  (by omega)
  · have f4 : 0 ≤ p1.toInt := i_nlt (a := p1.toInt) (b := 0) rfl rfl c1
    refine ⟨fun c9 => ?_, fun c9 => ?_⟩
    · have f5 : v_count.toInt ≤ p1.toInt := i_le (a := v_count.toInt) (b := p1.toInt) rfl rfl c9
      exact j_16  (by omega)
    · have f6 : p1.toInt < v_count.toInt := i_nle (a := v_count.toInt) (b := p1.toInt) rfl rfl c9
      exact j_17 1 (by omega)
set_option maxHeartbeats 4000000 in
theorem ok_X5_kindOf {p1 : Int32} {v_count : Int32} {v_kinds : Nat → Int32} {Q : Int32 → Prop} (a0 : 0 ≤ v_count.toInt) (a1 : v_count.toInt ≤ 512) (hq : ∀ (r : Int32), ((0 ≤ p1.toInt ∧ p1.toInt + 1 ≤ v_count.toInt) ∨ (r.toInt = 6)) → Q r) : w_X5_kindOf p1 v_count v_kinds Q := by
  have q_t : (bz true).toInt = 1 := rfl
  have q_f : (bz false).toInt = 0 := rfl
  have q_6 : (6 : Int32).toInt = 6 := rfl
  unfold w_X5_kindOf
  have j_23 : ∀ (s0_23 : Int32), ((0 ≤ p1.toInt ∧ p1.toInt + 1 ≤ v_count.toInt) ∨ (s0_23.toInt = 6)) → w_X5_kindOf_23 Q s0_23 := by
    intro s0_23 f1
    unfold w_X5_kindOf_23
    exact hq s0_23 (by omega)
  have j_21 : ((p1.toInt + 1 ≤ 0) ∨ (0 ≤ p1.toInt ∧ v_count.toInt ≤ p1.toInt)) → w_X5_kindOf_21 Q := by
    intro f2
    unfold w_X5_kindOf_21
    exact j_23 6 (by omega)
  refine ⟨fun c1 => ?_, fun c1 => ?_⟩
  · have f3 : p1.toInt < 0 := i_lt (a := p1.toInt) (b := 0) rfl rfl c1
    exact j_21  (by omega)
  · have f4 : 0 ≤ p1.toInt := i_nlt (a := p1.toInt) (b := 0) rfl rfl c1
    refine ⟨fun c9 => ?_, fun c9 => ?_⟩
    · have f5 : v_count.toInt ≤ p1.toInt := i_le (a := v_count.toInt) (b := p1.toInt) rfl rfl c9
      exact j_21  (by omega)
    · have f6 : p1.toInt < v_count.toInt := i_nle (a := v_count.toInt) (b := p1.toInt) rfl rfl c9
      refine ⟨i_in (by omega) (by omega), ?_⟩
      intro x17 ex17
      exact j_23 x17 (by omega)
set_option maxHeartbeats 4000000 in
theorem ok_X5_nextOf {p1 : Int32} {v_count : Int32} {v_nexts : Nat → Int32} {Q : Int32 → Prop} (a0 : 0 ≤ v_count.toInt) (a1 : v_count.toInt ≤ 512) (hq : ∀ (r : Int32), ((0 ≤ p1.toInt ∧ p1.toInt + 1 ≤ v_count.toInt) ∨ (r.toInt + 1 = 0)) → Q r) : w_X5_nextOf p1 v_count v_nexts Q := by
  have q_t : (bz true).toInt = 1 := rfl
  have q_f : (bz false).toInt = 0 := rfl
  have q_m1 : ((-1) : Int32).toInt = (-1) := rfl
  unfold w_X5_nextOf
  have j_22 : ∀ (s0_22 : Int32), ((0 ≤ p1.toInt ∧ p1.toInt + 1 ≤ v_count.toInt) ∨ (s0_22.toInt + 1 = 0)) → w_X5_nextOf_22 Q s0_22 := by
    intro s0_22 f1
    unfold w_X5_nextOf_22
    exact hq s0_22 (by omega)
  have j_21 : ((p1.toInt + 1 ≤ 0) ∨ (0 ≤ p1.toInt ∧ v_count.toInt ≤ p1.toInt)) → w_X5_nextOf_21 Q := by
    intro f2
    unfold w_X5_nextOf_21
    exact j_22 (-1) (by omega)
  refine ⟨fun c1 => ?_, fun c1 => ?_⟩
  · have f3 : p1.toInt < 0 := i_lt (a := p1.toInt) (b := 0) rfl rfl c1
    exact j_21  (by omega)
  · have f4 : 0 ≤ p1.toInt := i_nlt (a := p1.toInt) (b := 0) rfl rfl c1
    refine ⟨fun c9 => ?_, fun c9 => ?_⟩
    · have f5 : v_count.toInt ≤ p1.toInt := i_le (a := v_count.toInt) (b := p1.toInt) rfl rfl c9
      exact j_21  (by omega)
    · have f6 : p1.toInt < v_count.toInt := i_nle (a := v_count.toInt) (b := p1.toInt) rfl rfl c9
      refine ⟨i_in (by omega) (by omega), ?_⟩
      intro x17 ex17
      exact j_22 x17 (by omega)
set_option maxHeartbeats 4000000 in
theorem ok_X5_otherOf {p1 : Int32} {v_count : Int32} {v_others : Nat → Int32} {Q : Int32 → Prop} (a0 : 0 ≤ v_count.toInt) (a1 : v_count.toInt ≤ 512) (hq : ∀ (r : Int32), ((0 ≤ p1.toInt ∧ p1.toInt + 1 ≤ v_count.toInt) ∨ (r.toInt + 1 = 0)) → Q r) : w_X5_otherOf p1 v_count v_others Q := by
  have q_t : (bz true).toInt = 1 := rfl
  have q_f : (bz false).toInt = 0 := rfl
  have q_m1 : ((-1) : Int32).toInt = (-1) := rfl
  unfold w_X5_otherOf
  have j_22 : ∀ (s0_22 : Int32), ((0 ≤ p1.toInt ∧ p1.toInt + 1 ≤ v_count.toInt) ∨ (s0_22.toInt + 1 = 0)) → w_X5_otherOf_22 Q s0_22 := by
    intro s0_22 f1
    unfold w_X5_otherOf_22
    exact hq s0_22 (by omega)
  have j_21 : ((p1.toInt + 1 ≤ 0) ∨ (0 ≤ p1.toInt ∧ v_count.toInt ≤ p1.toInt)) → w_X5_otherOf_21 Q := by
    intro f2
    unfold w_X5_otherOf_21
    exact j_22 (-1) (by omega)
  refine ⟨fun c1 => ?_, fun c1 => ?_⟩
  · have f3 : p1.toInt < 0 := i_lt (a := p1.toInt) (b := 0) rfl rfl c1
    exact j_21  (by omega)
  · have f4 : 0 ≤ p1.toInt := i_nlt (a := p1.toInt) (b := 0) rfl rfl c1
    refine ⟨fun c9 => ?_, fun c9 => ?_⟩
    · have f5 : v_count.toInt ≤ p1.toInt := i_le (a := v_count.toInt) (b := p1.toInt) rfl rfl c9
      exact j_21  (by omega)
    · have f6 : p1.toInt < v_count.toInt := i_nle (a := v_count.toInt) (b := p1.toInt) rfl rfl c9
      refine ⟨i_in (by omega) (by omega), ?_⟩
      intro x17 ex17
      exact j_22 x17 (by omega)
set_option maxHeartbeats 4000000 in
theorem ok_X5_add {p1 : Int32} {p2 : Int32} {p3 : Int32} {p4 : Int32} {v_count : Int32} {v_kinds : Nat → Int32} {v_subjects : Nat → Int32} {v_nexts : Nat → Int32} {v_others : Nat → Int32} {Q : Int32 → Int32 → (Nat → Int32) → (Nat → Int32) → (Nat → Int32) → (Nat → Int32) → Prop} (a0 : 0 ≤ v_count.toInt) (a1 : v_count.toInt ≤ 512) (hq : ∀ (r : Int32) (ov_count : Int32) (ov_kinds : Nat → Int32) (ov_subjects : Nat → Int32) (ov_nexts : Nat → Int32) (ov_others : Nat → Int32), v_count.toInt ≤ ov_count.toInt → ((r.toInt = v_count.toInt ∧ v_count.toInt ≤ 511 ∧ ov_count.toInt = v_count.toInt + 1) ∨ (r.toInt = p3.toInt ∧ ov_count.toInt = v_count.toInt ∧ 512 ≤ v_count.toInt)) → Q r ov_count ov_kinds ov_subjects ov_nexts ov_others) : w_X5_add p1 p2 p3 p4 v_count v_kinds v_subjects v_nexts v_others Q := by
  have q_t : (bz true).toInt = 1 := rfl
  have q_f : (bz false).toInt = 0 := rfl
  unfold w_X5_add
  refine ⟨fun c7 => ?_, fun c7 => ?_⟩
  · have f1 : v_count.toInt < 512 := i_lt (a := v_count.toInt) (b := 512) rfl rfl c7
    intro x24 ex24
    have f2 : x24.toInt = v_count.toInt + 1 := i_add (a := v_count.toInt) (b := 1) ex24 rfl rfl (by omega) (by omega)
    refine ⟨i_in (by omega) (by omega), ?_⟩
    intro g35 eg35
    refine ⟨i_in (by omega) (by omega), ?_⟩
    intro g43 eg43
    refine ⟨i_in (by omega) (by omega), ?_⟩
    intro g51 eg51
    refine ⟨i_in (by omega) (by omega), ?_⟩
    intro g60 eg60
    exact hq v_count x24 g35 g43 g51 g60 (by omega) (by omega)
  · have f3 : 512 ≤ v_count.toInt := i_nlt (a := v_count.toInt) (b := 512) rfl rfl c7
    exact hq p3 v_count v_kinds v_subjects v_nexts v_others (by omega) (by omega)
set_option maxHeartbeats 4000000 in
theorem ok_X5_aim {p1 : Int32} {p2 : Int32} {p3 : Int32} {p4 : Int32} {v_count : Int32} {v_nexts : Nat → Int32} {v_others : Nat → Int32} {Q : (Nat → Int32) → (Nat → Int32) → Prop} (a0 : 0 ≤ v_count.toInt) (a1 : v_count.toInt ≤ 512) (a2 : 0 ≤ p4.toInt) (a3 : p4.toInt ≤ 1) (hq : ∀ (ov_nexts : Nat → Int32) (ov_others : Nat → Int32), Q ov_nexts ov_others) : w_X5_aim p1 p2 p3 p4 v_count v_nexts v_others Q := by
  have q_t : (bz true).toInt = 1 := rfl
  have q_f : (bz false).toInt = 0 := rfl
  unfold w_X5_aim
  have j_44 : ∀ (v_nexts_44 : Nat → Int32) (v_others_44 : Nat → Int32), ((p1.toInt + 1 ≤ 0) ∨ (0 ≤ p1.toInt ∧ v_count.toInt ≤ p1.toInt) ∨ (0 ≤ p1.toInt ∧ p1.toInt + 1 ≤ v_count.toInt)) → w_X5_aim_44 Q v_nexts_44 v_others_44 := by
    intro v_nexts_44 v_others_44 f1
    unfold w_X5_aim_44
    exact hq v_nexts_44 v_others_44 
  refine ⟨fun c1 => ?_, fun c1 => ?_⟩
  · have f2 : p1.toInt < 0 := i_lt (a := p1.toInt) (b := 0) rfl rfl c1
    exact j_44 v_nexts v_others (by omega)
  · have f3 : 0 ≤ p1.toInt := i_nlt (a := p1.toInt) (b := 0) rfl rfl c1
    refine ⟨fun c9 => ?_, fun c9 => ?_⟩
    · have f4 : v_count.toInt ≤ p1.toInt := i_le (a := v_count.toInt) (b := p1.toInt) rfl rfl c9
      exact j_44 v_nexts v_others (by omega)
    · have f5 : p1.toInt < v_count.toInt := i_nle (a := v_count.toInt) (b := p1.toInt) rfl rfl c9
      have j_27 : ∀ (s0_27 : Int32), ((s0_27.toInt = p2.toInt ∧ p4.toInt = 0) ∨ (s0_27.toInt = p3.toInt)) → w_X5_aim_27 p1 p2 p3 p4 Q s0_27 p1 v_nexts v_others := by
        intro s0_27 f6
        unfold w_X5_aim_27
        refine ⟨i_in (by omega) (by omega), ?_⟩
        intro g27 eg27
        have j_43 : ∀ (s0_43 : Int32), ((s0_43.toInt = p3.toInt ∧ p4.toInt = 0) ∨ (s0_43.toInt = p2.toInt)) → w_X5_aim_43 Q s0_43 p1 g27 v_others := by
          intro s0_43 f7
          unfold w_X5_aim_43
          refine ⟨i_in (by omega) (by omega), ?_⟩
          intro g43 eg43
          exact j_44 g27 g43 (by omega)
        refine ⟨fun c35 => ?_, fun c35 => ?_⟩
        · have f8 : p4.toInt = 0 := i_eq (a := p4.toInt) (b := 0) rfl rfl c35
          exact j_43 p3 (by omega)
        · have f9 : p4.toInt ≠ 0 := i_ne (a := p4.toInt) (b := 0) rfl rfl c35
          exact j_43 p2 (by omega)
      refine ⟨fun c19 => ?_, fun c19 => ?_⟩
      · have f10 : p4.toInt = 0 := i_eq (a := p4.toInt) (b := 0) rfl rfl c19
        exact j_27 p2 (by omega)
      · have f11 : p4.toInt ≠ 0 := i_ne (a := p4.toInt) (b := 0) rfl rfl c19
        exact j_27 p3 (by omega)
set_option maxHeartbeats 4000000 in
theorem ok_X5_buildLoop {p1 : Int32} {p2 : Int32} {p3 : Int32} {p4 : Int32} {v_start : Int32} {v_count : Int32} {v_kinds : Nat → Int32} {v_subjects : Nat → Int32} {v_nexts : Nat → Int32} {v_others : Nat → Int32} {v_tree_there : Bool} {v_tree_count : Int32} {v_tree_captures : Int32} {v_tree_ranges : Int32} {v_tree_sort : Nat → Int32} {v_tree_end : Nat → Int32} {v_tree_before : Nat → Int32} {v_tree_last : Nat → Int32} {v_tree_value : Nat → Int32} {v_tree_low : Nat → Int32} {v_tree_high : Nat → Int32} {W_X5_build : Int32 → Int32 → Int32 → Int32 → Int32 → Int32 → (Nat → Int32) → (Nat → Int32) → (Nat → Int32) → (Nat → Int32) → Bool → Int32 → Int32 → Int32 → (Nat → Int32) → (Nat → Int32) → (Nat → Int32) → (Nat → Int32) → (Nat → Int32) → (Nat → Int32) → (Nat → Int32) → (Int32 → Int32 → (Nat → Int32) → (Nat → Int32) → (Nat → Int32) → (Nat → Int32) → Prop) → Prop} {lv : Int} (hW_X5_build : ∀ (p1 : Int32) (p2 : Int32) (p3 : Int32) (p4 : Int32) (v_start : Int32) (v_count : Int32) (v_kinds : Nat → Int32) (v_subjects : Nat → Int32) (v_nexts : Nat → Int32) (v_others : Nat → Int32) (v_tree_there : Bool) (v_tree_count : Int32) (v_tree_captures : Int32) (v_tree_ranges : Int32) (v_tree_sort : Nat → Int32) (v_tree_end : Nat → Int32) (v_tree_before : Nat → Int32) (v_tree_last : Nat → Int32) (v_tree_value : Nat → Int32) (v_tree_low : Nat → Int32) (v_tree_high : Nat → Int32) (Q : Int32 → Int32 → (Nat → Int32) → (Nat → Int32) → (Nat → Int32) → (Nat → Int32) → Prop), 0 ≤ v_count.toInt → v_count.toInt ≤ 512 → 0 ≤ v_tree_count.toInt → v_tree_count.toInt ≤ 256 → 0 ≤ v_tree_ranges.toInt → v_tree_ranges.toInt ≤ 512 → 0 ≤ p4.toInt → p4.toInt ≤ 61 → (lv : Int) + 1 ≤ p4.toInt → rp (fun k v => -1 ≤ v ∧ v ≤ 255) v_tree_last 0 v_tree_count.toInt → rp (fun k v => k < v ∧ v ≤ 256) v_tree_end 0 v_tree_count.toInt → rp (fun k v => v < k ∧ -1 ≤ v) v_tree_before 0 v_tree_count.toInt → (∀ (r : Int32) (ov_count : Int32) (ov_kinds : Nat → Int32) (ov_subjects : Nat → Int32) (ov_nexts : Nat → Int32) (ov_others : Nat → Int32), 0 ≤ ov_count.toInt → ov_count.toInt ≤ 512 → Q r ov_count ov_kinds ov_subjects ov_nexts ov_others) → W_X5_build p1 p2 p3 p4 v_start v_count v_kinds v_subjects v_nexts v_others v_tree_there v_tree_count v_tree_captures v_tree_ranges v_tree_sort v_tree_end v_tree_before v_tree_last v_tree_value v_tree_low v_tree_high Q) {Q : Int32 → Int32 → (Nat → Int32) → (Nat → Int32) → (Nat → Int32) → (Nat → Int32) → Prop} (a0 : 0 ≤ v_count.toInt) (a1 : v_count.toInt ≤ 512) (a2 : 0 ≤ v_tree_count.toInt) (a3 : v_tree_count.toInt ≤ 256) (a4 : 0 ≤ v_tree_ranges.toInt) (a5 : v_tree_ranges.toInt ≤ 512) (a6 : 0 ≤ p4.toInt) (a7 : p4.toInt ≤ 60) (a8 : (lv : Int) ≤ p4.toInt) (b0 : rp (fun k v => -1 ≤ v ∧ v ≤ 255) v_tree_last 0 v_tree_count.toInt) (b1 : rp (fun k v => k < v ∧ v ≤ 256) v_tree_end 0 v_tree_count.toInt) (b2 : rp (fun k v => v < k ∧ -1 ≤ v) v_tree_before 0 v_tree_count.toInt) (hq : ∀ (r : Int32) (ov_count : Int32) (ov_kinds : Nat → Int32) (ov_subjects : Nat → Int32) (ov_nexts : Nat → Int32) (ov_others : Nat → Int32), 0 ≤ ov_count.toInt + 1 → 0 ≤ ov_count.toInt → ov_count.toInt ≤ 512 → Q r ov_count ov_kinds ov_subjects ov_nexts ov_others) : w_X5_buildLoop W_X5_build p1 p2 p3 p4 v_start v_count v_kinds v_subjects v_nexts v_others v_tree_there v_tree_count v_tree_captures v_tree_ranges v_tree_sort v_tree_end v_tree_before v_tree_last v_tree_value v_tree_low v_tree_high Q := by
  have q_t : (bz true).toInt = 1 := rfl
  have q_f : (bz false).toInt = 0 := rfl
  have q_m1 : ((-1) : Int32).toInt = (-1) := rfl
  have q_0 : (0 : Int32).toInt = 0 := rfl
  have q_1 : (1 : Int32).toInt = 1 := rfl
  have q_4 : (4 : Int32).toInt = 4 := rfl
  have q_5 : (5 : Int32).toInt = 5 := rfl
  unfold w_X5_buildLoop
  refine ok_X10_firstOf (by omega) (by omega) (rp_mono b1 (by omega) (by omega)) (fun r5 f1 f2 => ?_)
  refine ok_X10_valueOf (by omega) (by omega) (fun r15 f3 => ?_)
  have j_27 : ∀ (s0_27 : Int32), ((s0_27.toInt = 0) ∨ (s0_27.toInt = 1 ∧ r15.toInt = 1)) → w_X5_buildLoop_27 W_X5_build p1 p2 p3 p4 v_start v_tree_there v_tree_count v_tree_captures v_tree_ranges v_tree_sort v_tree_end v_tree_before v_tree_last v_tree_value v_tree_low v_tree_high Q s0_27 r5 v_count v_kinds v_subjects v_nexts v_others := by
    intro s0_27 f4
    unfold w_X5_buildLoop_27
    refine ok_X10_isEndless (by omega) (by omega) (fun r37 f5 f6 => ?_)
    have j_90 : ∀ (l7_90 : Int32) (v_count_90 : Int32) (v_kinds_90 : Nat → Int32) (v_subjects_90 : Nat → Int32) (v_nexts_90 : Nat → Int32) (v_others_90 : Nat → Int32), 0 ≤ v_count_90.toInt → v_count_90.toInt ≤ 512 → ((l7_90.toInt = p2.toInt ∧ v_count_90.toInt = v_count.toInt ∧ r37.toInt = 0) ∨ (0 ≤ v_count_90.toInt ∧ v_count_90.toInt ≤ 512)) → w_X5_buildLoop_90 W_X5_build p1 p2 p3 p4 v_start v_tree_there v_tree_count v_tree_captures v_tree_ranges v_tree_sort v_tree_end v_tree_before v_tree_last v_tree_value v_tree_low v_tree_high Q r5 s0_27 l7_90 v_count_90 v_kinds_90 v_subjects_90 v_nexts_90 v_others_90 := by
      intro l7_90 v_count_90 v_kinds_90 v_subjects_90 v_nexts_90 v_others_90 f7 f8 f9
      unfold w_X5_buildLoop_90
      refine ok_X10_highOf (by omega) (by omega) (fun r95 f10 => ?_)
      have j_100 : ∀ n_100 : Nat, ∀ (l7_100 : Int32) (l8_100 : Int32) (v_count_100 : Int32) (v_kinds_100 : Nat → Int32) (v_subjects_100 : Nat → Int32) (v_nexts_100 : Nat → Int32) (v_others_100 : Nat → Int32), l8_100.toInt ≤ r95.toInt → 0 ≤ v_count_100.toInt → v_count_100.toInt ≤ 512 → (l8_100.toInt + 2147483649).toNat < n_100 → w_X5_buildLoop_100 W_X5_build p1 p2 p3 p4 v_start v_tree_there v_tree_count v_tree_captures v_tree_ranges v_tree_sort v_tree_end v_tree_before v_tree_last v_tree_value v_tree_low v_tree_high Q r5 s0_27 n_100 l7_100 l8_100 v_count_100 v_kinds_100 v_subjects_100 v_nexts_100 v_others_100 := by
        intro n_100
        induction n_100 with
        | zero =>
          intro l7_100 l8_100 v_count_100 v_kinds_100 v_subjects_100 v_nexts_100 v_others_100 f11 f12 f13 hm_100
          exfalso; omega
        | succ n_100 ih_100 =>
          intro l7_100 l8_100 v_count_100 v_kinds_100 v_subjects_100 v_nexts_100 v_others_100 f11 f12 f13 hm_100
          unfold w_X5_buildLoop_100
          unfold w_X5_buildLoop_100B
          refine ok_X10_lowOf (by omega) (by omega) (fun r107 f14 => ?_)
          refine ⟨fun c110 => ?_, fun c110 => ?_⟩
          · have f15 : l8_100.toInt ≤ r107.toInt := i_le (a := l8_100.toInt) (b := r107.toInt) rfl rfl c110
            have j_158 : ∀ n_158 : Nat, ∀ (l7_158 : Int32) (l8_158 : Int32) (v_count_158 : Int32) (v_kinds_158 : Nat → Int32) (v_subjects_158 : Nat → Int32) (v_nexts_158 : Nat → Int32) (v_others_158 : Nat → Int32), 0 ≤ l8_158.toInt → 0 ≤ v_count_158.toInt → v_count_158.toInt ≤ 512 → ((-1) * l8_158.toInt + 2147483648).toNat < n_158 → w_X5_buildLoop_158 W_X5_build p1 p3 p4 v_start v_tree_there v_tree_count v_tree_captures v_tree_ranges v_tree_sort v_tree_end v_tree_before v_tree_last v_tree_value v_tree_low v_tree_high Q r5 n_158 l7_158 l8_158 v_count_158 v_kinds_158 v_subjects_158 v_nexts_158 v_others_158 := by
              intro n_158
              induction n_158 with
              | zero =>
                intro l7_158 l8_158 v_count_158 v_kinds_158 v_subjects_158 v_nexts_158 v_others_158 f16 f17 f18 hm_158
                exfalso; omega
              | succ n_158 ih_158 =>
                intro l7_158 l8_158 v_count_158 v_kinds_158 v_subjects_158 v_nexts_158 v_others_158 f16 f17 f18 hm_158
                unfold w_X5_buildLoop_158
                unfold w_X5_buildLoop_158B
                refine ok_X10_lowOf (by omega) (by omega) (fun r165 f19 => ?_)
                refine ⟨fun c168 => ?_, fun c168 => ?_⟩
                · have f20 : r165.toInt ≤ l8_158.toInt := i_le (a := r165.toInt) (b := l8_158.toInt) rfl rfl c168
                  exact hq l7_158 v_count_158 v_kinds_158 v_subjects_158 v_nexts_158 v_others_158 (by omega) (by omega) (by omega)
                · have f21 : l8_158.toInt < r165.toInt := i_nle (a := r165.toInt) (b := l8_158.toInt) rfl rfl c168
                  intro x180 ex180
                  have f22 : x180.toInt = p4.toInt + 1 := i_add (a := p4.toInt) (b := 1) ex180 rfl rfl (by omega) (by omega)
                  refine hW_X5_build r5 l7_158 p3 x180 v_start v_count_158 v_kinds_158 v_subjects_158 v_nexts_158 v_others_158 v_tree_there v_tree_count v_tree_captures v_tree_ranges v_tree_sort v_tree_end v_tree_before v_tree_last v_tree_value v_tree_low v_tree_high _ (by omega) (by omega) (by omega) (by omega) (by omega) (by omega) (by omega) (by omega) (by omega) (rp_mono b0 (by omega) (by omega)) (rp_mono b1 (by omega) (by omega)) (rp_mono b2 (by omega) (by omega)) (fun r181 r181_0 r181_1 r181_2 r181_3 r181_4 f23 f24 => ?_)
                  intro x186 ex186
                  have f25 : x186.toInt = l8_158.toInt + 1 := i_add (a := l8_158.toInt) (b := 1) ex186 rfl rfl (by omega) (by have h8_0 := i_rng l8_100; have h8_1 := i_rng l8_158; have h8_2 := i_rng p1; have h8_3 := i_rng r107; have h8_4 := i_rng r15; have h8_5 := i_rng r165; have h8_6 := i_rng r5; have h8_7 := i_rng r95; have h8_8 := i_rng s0_27; have h8_9 := i_rng v_tree_count; omega)
                  exact ih_158 r181 x186 r181_0 r181_1 r181_2 r181_3 r181_4 (by omega) (by omega) (by omega) (by have h8_0 := i_rng l8_158; have h8_1 := i_rng x186; omega)
            exact ⟨(2147483648 : Int).toNat + 1, j_158   ((2147483648 : Int).toNat + 1) l7_100 0 v_count_100 v_kinds_100 v_subjects_100 v_nexts_100 v_others_100 (by omega) (by omega) (by omega) (by omega)⟩
          · have f26 : r107.toInt < l8_100.toInt := i_nle (a := l8_100.toInt) (b := r107.toInt) rfl rfl c110
            intro x122 ex122
            have f27 : x122.toInt = p4.toInt + 1 := i_add (a := p4.toInt) (b := 1) ex122 rfl rfl (by omega) (by omega)
            refine hW_X5_build r5 l7_100 p3 x122 v_start v_count_100 v_kinds_100 v_subjects_100 v_nexts_100 v_others_100 v_tree_there v_tree_count v_tree_captures v_tree_ranges v_tree_sort v_tree_end v_tree_before v_tree_last v_tree_value v_tree_low v_tree_high _ (by omega) (by omega) (by omega) (by omega) (by omega) (by omega) (by omega) (by omega) (by omega) (rp_mono b0 (by omega) (by omega)) (rp_mono b1 (by omega) (by omega)) (rp_mono b2 (by omega) (by omega)) (fun r123 r123_0 r123_1 r123_2 r123_3 r123_4 f28 f29 => ?_)
            refine ok_X5_add (by omega) (by omega) (fun r133 r133_0 r133_1 r133_2 r133_3 r133_4 f30 f31 => ?_)
            refine ok_X5_aim (by omega) (by omega) (by omega) (by omega) (fun r146_0 r146_1 => ?_)
            intro x149 ex149
            have f32 : x149.toInt = l8_100.toInt + (-1) := i_add (a := l8_100.toInt) (b := (-1)) ex149 rfl rfl (by have h8_0 := i_rng l8_100; have h8_1 := i_rng p1; have h8_2 := i_rng r107; have h8_3 := i_rng r15; have h8_4 := i_rng r5; have h8_5 := i_rng r95; have h8_6 := i_rng s0_27; have h8_7 := i_rng v_tree_count; omega) (by have h8_0 := i_rng l8_100; have h8_1 := i_rng p1; have h8_2 := i_rng r107; have h8_3 := i_rng r15; have h8_4 := i_rng r5; have h8_5 := i_rng r95; have h8_6 := i_rng s0_27; have h8_7 := i_rng v_tree_count; omega)
            exact ih_100 r133 x149 r133_0 r133_1 r133_2 r146_0 r146_1 (by omega) (by omega) (by omega) (by have h8_0 := i_rng l8_100; have h8_1 := i_rng x149; omega)
      exact ⟨(r95.toInt + 2147483649).toNat + 1, j_100   ((r95.toInt + 2147483649).toNat + 1) l7_90 r95 v_count_90 v_kinds_90 v_subjects_90 v_nexts_90 v_others_90 (by omega) (by omega) (by omega) (by omega)⟩
    refine ⟨fun c40 => ?_, fun c40 => ?_⟩
    · have f33 : r37.toInt = 0 := i_eq (a := r37.toInt) (b := 0) rfl rfl c40
      exact j_90 p2 v_count v_kinds v_subjects v_nexts v_others (by omega) (by omega) (by omega)
    · have f34 : r37.toInt ≠ 0 := i_ne (a := r37.toInt) (b := 0) rfl rfl c40
      refine ok_X5_add (by omega) (by omega) (fun r48 r48_0 r48_1 r48_2 r48_3 r48_4 f35 f36 => ?_)
      intro x60 ex60
      refine ok_X5_add (by omega) (by omega) (fun r61 r61_0 r61_1 r61_2 r61_3 r61_4 f37 f38 => ?_)
      intro x76 ex76
      intro x80 ex80
      have f39 : x80.toInt = p4.toInt + 1 := i_add (a := p4.toInt) (b := 1) ex80 rfl rfl (by omega) (by omega)
      refine hW_X5_build r5 r61 x76 x80 v_start r61_0 r61_1 r61_2 r61_3 r61_4 v_tree_there v_tree_count v_tree_captures v_tree_ranges v_tree_sort v_tree_end v_tree_before v_tree_last v_tree_value v_tree_low v_tree_high _ (by omega) (by omega) (by omega) (by omega) (by omega) (by omega) (by omega) (by omega) (by omega) (rp_mono b0 (by omega) (by omega)) (rp_mono b1 (by omega) (by omega)) (rp_mono b2 (by omega) (by omega)) (fun r81 r81_0 r81_1 r81_2 r81_3 r81_4 f40 f41 => ?_)
      refine ok_X5_aim (by omega) (by omega) (by omega) (by omega) (fun r87_0 r87_1 => ?_)
      exact j_90 r48 r81_0 r81_1 r81_2 r87_0 r87_1 (by omega) (by omega) (by omega)
  refine ⟨fun c19 => ?_, fun c19 => ?_⟩
  · have f42 : r15.toInt ≠ 1 := i_ne (a := r15.toInt) (b := 1) rfl rfl c19
    exact j_27 0 (by omega)
  · have f43 : r15.toInt = 1 := i_eq (a := r15.toInt) (b := 1) rfl rfl c19
    exact j_27 1 (by omega)
set_option maxHeartbeats 4000000 in
theorem ok_X5_buildChoice {p1 : Int32} {p2 : Int32} {p3 : Int32} {p4 : Int32} {v_start : Int32} {v_count : Int32} {v_kinds : Nat → Int32} {v_subjects : Nat → Int32} {v_nexts : Nat → Int32} {v_others : Nat → Int32} {v_tree_there : Bool} {v_tree_count : Int32} {v_tree_captures : Int32} {v_tree_ranges : Int32} {v_tree_sort : Nat → Int32} {v_tree_end : Nat → Int32} {v_tree_before : Nat → Int32} {v_tree_last : Nat → Int32} {v_tree_value : Nat → Int32} {v_tree_low : Nat → Int32} {v_tree_high : Nat → Int32} {W_X5_build : Int32 → Int32 → Int32 → Int32 → Int32 → Int32 → (Nat → Int32) → (Nat → Int32) → (Nat → Int32) → (Nat → Int32) → Bool → Int32 → Int32 → Int32 → (Nat → Int32) → (Nat → Int32) → (Nat → Int32) → (Nat → Int32) → (Nat → Int32) → (Nat → Int32) → (Nat → Int32) → (Int32 → Int32 → (Nat → Int32) → (Nat → Int32) → (Nat → Int32) → (Nat → Int32) → Prop) → Prop} {lv : Int} (hW_X5_build : ∀ (p1 : Int32) (p2 : Int32) (p3 : Int32) (p4 : Int32) (v_start : Int32) (v_count : Int32) (v_kinds : Nat → Int32) (v_subjects : Nat → Int32) (v_nexts : Nat → Int32) (v_others : Nat → Int32) (v_tree_there : Bool) (v_tree_count : Int32) (v_tree_captures : Int32) (v_tree_ranges : Int32) (v_tree_sort : Nat → Int32) (v_tree_end : Nat → Int32) (v_tree_before : Nat → Int32) (v_tree_last : Nat → Int32) (v_tree_value : Nat → Int32) (v_tree_low : Nat → Int32) (v_tree_high : Nat → Int32) (Q : Int32 → Int32 → (Nat → Int32) → (Nat → Int32) → (Nat → Int32) → (Nat → Int32) → Prop), 0 ≤ v_count.toInt → v_count.toInt ≤ 512 → 0 ≤ v_tree_count.toInt → v_tree_count.toInt ≤ 256 → 0 ≤ v_tree_ranges.toInt → v_tree_ranges.toInt ≤ 512 → 0 ≤ p4.toInt → p4.toInt ≤ 61 → (lv : Int) + 1 ≤ p4.toInt → rp (fun k v => -1 ≤ v ∧ v ≤ 255) v_tree_last 0 v_tree_count.toInt → rp (fun k v => k < v ∧ v ≤ 256) v_tree_end 0 v_tree_count.toInt → rp (fun k v => v < k ∧ -1 ≤ v) v_tree_before 0 v_tree_count.toInt → (∀ (r : Int32) (ov_count : Int32) (ov_kinds : Nat → Int32) (ov_subjects : Nat → Int32) (ov_nexts : Nat → Int32) (ov_others : Nat → Int32), 0 ≤ ov_count.toInt → ov_count.toInt ≤ 512 → Q r ov_count ov_kinds ov_subjects ov_nexts ov_others) → W_X5_build p1 p2 p3 p4 v_start v_count v_kinds v_subjects v_nexts v_others v_tree_there v_tree_count v_tree_captures v_tree_ranges v_tree_sort v_tree_end v_tree_before v_tree_last v_tree_value v_tree_low v_tree_high Q) {Q : Int32 → Int32 → (Nat → Int32) → (Nat → Int32) → (Nat → Int32) → (Nat → Int32) → Prop} (a0 : 0 ≤ v_count.toInt) (a1 : v_count.toInt ≤ 512) (a2 : 0 ≤ v_tree_count.toInt) (a3 : v_tree_count.toInt ≤ 256) (a4 : 0 ≤ v_tree_ranges.toInt) (a5 : v_tree_ranges.toInt ≤ 512) (a6 : 0 ≤ p4.toInt) (a7 : p4.toInt ≤ 60) (a8 : (lv : Int) ≤ p4.toInt) (b0 : rp (fun k v => -1 ≤ v ∧ v ≤ 255) v_tree_last 0 v_tree_count.toInt) (b1 : rp (fun k v => k < v ∧ v ≤ 256) v_tree_end 0 v_tree_count.toInt) (b2 : rp (fun k v => v < k ∧ -1 ≤ v) v_tree_before 0 v_tree_count.toInt) (hq : ∀ (r : Int32) (ov_count : Int32) (ov_kinds : Nat → Int32) (ov_subjects : Nat → Int32) (ov_nexts : Nat → Int32) (ov_others : Nat → Int32), 0 ≤ ov_count.toInt + 1 → 0 ≤ ov_count.toInt → ov_count.toInt ≤ 512 → Q r ov_count ov_kinds ov_subjects ov_nexts ov_others) : w_X5_buildChoice W_X5_build p1 p2 p3 p4 v_start v_count v_kinds v_subjects v_nexts v_others v_tree_there v_tree_count v_tree_captures v_tree_ranges v_tree_sort v_tree_end v_tree_before v_tree_last v_tree_value v_tree_low v_tree_high Q := by
  have q_t : (bz true).toInt = 1 := rfl
  have q_f : (bz false).toInt = 0 := rfl
  have q_m1 : ((-1) : Int32).toInt = (-1) := rfl
  have q_4 : (4 : Int32).toInt = 4 := rfl
  unfold w_X5_buildChoice
  refine ok_X10_lastOf (by omega) (by omega) (rp_mono b0 (by omega) (by omega)) (fun r5 f1 => ?_)
  intro x18 ex18
  have f2 : x18.toInt = p4.toInt + 1 := i_add (a := p4.toInt) (b := 1) ex18 rfl rfl (by omega) (by omega)
  refine hW_X5_build r5 p2 p3 x18 v_start v_count v_kinds v_subjects v_nexts v_others v_tree_there v_tree_count v_tree_captures v_tree_ranges v_tree_sort v_tree_end v_tree_before v_tree_last v_tree_value v_tree_low v_tree_high _ (by omega) (by omega) (by omega) (by omega) (by omega) (by omega) (by omega) (by omega) (by omega) (rp_mono b0 (by omega) (by omega)) (rp_mono b1 (by omega) (by omega)) (rp_mono b2 (by omega) (by omega)) (fun r19 r19_0 r19_1 r19_2 r19_3 r19_4 f3 f4 => ?_)
  refine ok_X10_beforeOf (by omega) (by omega) (rp_mono b2 (by omega) (by omega)) (fun r30 f5 => ?_)
  have j_35 : ∀ n_35 : Nat, ∀ (l6_35 : Int32) (l7_35 : Int32) (v_count_35 : Int32) (v_kinds_35 : Nat → Int32) (v_subjects_35 : Nat → Int32) (v_nexts_35 : Nat → Int32) (v_others_35 : Nat → Int32), 0 ≤ l7_35.toInt + 1 → l7_35.toInt ≤ r30.toInt → 0 ≤ v_count_35.toInt → v_count_35.toInt ≤ 512 → (l7_35.toInt + 2147483649).toNat < n_35 → w_X5_buildChoice_35 W_X5_build p2 p3 p4 v_start v_tree_there v_tree_count v_tree_captures v_tree_ranges v_tree_sort v_tree_end v_tree_before v_tree_last v_tree_value v_tree_low v_tree_high Q n_35 l6_35 l7_35 v_count_35 v_kinds_35 v_subjects_35 v_nexts_35 v_others_35 := by
    intro n_35
    induction n_35 with
    | zero =>
      intro l6_35 l7_35 v_count_35 v_kinds_35 v_subjects_35 v_nexts_35 v_others_35 f6 f7 f8 f9 hm_35
      exfalso; omega
    | succ n_35 ih_35 =>
      intro l6_35 l7_35 v_count_35 v_kinds_35 v_subjects_35 v_nexts_35 v_others_35 f6 f7 f8 f9 hm_35
      unfold w_X5_buildChoice_35
      unfold w_X5_buildChoice_35B
      refine ⟨fun c38 => ?_, fun c38 => ?_⟩
      · have f10 : l7_35.toInt = (-1) := i_eq (a := l7_35.toInt) (b := (-1)) rfl rfl c38
        exact hq l6_35 v_count_35 v_kinds_35 v_subjects_35 v_nexts_35 v_others_35 (by omega) (by omega) (by omega)
      · have f11 : l7_35.toInt ≠ (-1) := i_ne (a := l7_35.toInt) (b := (-1)) rfl rfl c38
        intro x52 ex52
        have f12 : x52.toInt = p4.toInt + 1 := i_add (a := p4.toInt) (b := 1) ex52 rfl rfl (by omega) (by omega)
        refine hW_X5_build l7_35 p2 p3 x52 v_start v_count_35 v_kinds_35 v_subjects_35 v_nexts_35 v_others_35 v_tree_there v_tree_count v_tree_captures v_tree_ranges v_tree_sort v_tree_end v_tree_before v_tree_last v_tree_value v_tree_low v_tree_high _ (by omega) (by omega) (by omega) (by omega) (by omega) (by omega) (by omega) (by omega) (by omega) (rp_mono b0 (by omega) (by omega)) (rp_mono b1 (by omega) (by omega)) (rp_mono b2 (by omega) (by omega)) (fun r53 r53_0 r53_1 r53_2 r53_3 r53_4 f13 f14 => ?_)
        refine ok_X5_add (by omega) (by omega) (fun r58 r58_0 r58_1 r58_2 r58_3 r58_4 f15 f16 => ?_)
        refine ok_X10_beforeOf (by omega) (by omega) (rp_mono b2 (by omega) (by omega)) (fun r69 f17 => ?_)
        exact ih_35 r58 r69 r58_0 r58_1 r58_2 r58_3 r58_4 (by omega) (by omega) (by omega) (by omega) (by have h8_0 := i_rng l7_35; have h8_1 := i_rng r69; omega)
  exact ⟨(r30.toInt + 2147483649).toNat + 1, j_35   ((r30.toInt + 2147483649).toNat + 1) r19 r30 r19_0 r19_1 r19_2 r19_3 r19_4 (by omega) (by omega) (by omega) (by omega) (by omega)⟩
set_option maxHeartbeats 4000000 in
theorem ok_X5_buildRow {p1 : Int32} {p2 : Int32} {p3 : Int32} {p4 : Int32} {v_start : Int32} {v_count : Int32} {v_kinds : Nat → Int32} {v_subjects : Nat → Int32} {v_nexts : Nat → Int32} {v_others : Nat → Int32} {v_tree_there : Bool} {v_tree_count : Int32} {v_tree_captures : Int32} {v_tree_ranges : Int32} {v_tree_sort : Nat → Int32} {v_tree_end : Nat → Int32} {v_tree_before : Nat → Int32} {v_tree_last : Nat → Int32} {v_tree_value : Nat → Int32} {v_tree_low : Nat → Int32} {v_tree_high : Nat → Int32} {W_X5_build : Int32 → Int32 → Int32 → Int32 → Int32 → Int32 → (Nat → Int32) → (Nat → Int32) → (Nat → Int32) → (Nat → Int32) → Bool → Int32 → Int32 → Int32 → (Nat → Int32) → (Nat → Int32) → (Nat → Int32) → (Nat → Int32) → (Nat → Int32) → (Nat → Int32) → (Nat → Int32) → (Int32 → Int32 → (Nat → Int32) → (Nat → Int32) → (Nat → Int32) → (Nat → Int32) → Prop) → Prop} {lv : Int} (hW_X5_build : ∀ (p1 : Int32) (p2 : Int32) (p3 : Int32) (p4 : Int32) (v_start : Int32) (v_count : Int32) (v_kinds : Nat → Int32) (v_subjects : Nat → Int32) (v_nexts : Nat → Int32) (v_others : Nat → Int32) (v_tree_there : Bool) (v_tree_count : Int32) (v_tree_captures : Int32) (v_tree_ranges : Int32) (v_tree_sort : Nat → Int32) (v_tree_end : Nat → Int32) (v_tree_before : Nat → Int32) (v_tree_last : Nat → Int32) (v_tree_value : Nat → Int32) (v_tree_low : Nat → Int32) (v_tree_high : Nat → Int32) (Q : Int32 → Int32 → (Nat → Int32) → (Nat → Int32) → (Nat → Int32) → (Nat → Int32) → Prop), 0 ≤ v_count.toInt → v_count.toInt ≤ 512 → 0 ≤ v_tree_count.toInt → v_tree_count.toInt ≤ 256 → 0 ≤ v_tree_ranges.toInt → v_tree_ranges.toInt ≤ 512 → 0 ≤ p4.toInt → p4.toInt ≤ 61 → (lv : Int) + 1 ≤ p4.toInt → rp (fun k v => -1 ≤ v ∧ v ≤ 255) v_tree_last 0 v_tree_count.toInt → rp (fun k v => k < v ∧ v ≤ 256) v_tree_end 0 v_tree_count.toInt → rp (fun k v => v < k ∧ -1 ≤ v) v_tree_before 0 v_tree_count.toInt → (∀ (r : Int32) (ov_count : Int32) (ov_kinds : Nat → Int32) (ov_subjects : Nat → Int32) (ov_nexts : Nat → Int32) (ov_others : Nat → Int32), 0 ≤ ov_count.toInt → ov_count.toInt ≤ 512 → Q r ov_count ov_kinds ov_subjects ov_nexts ov_others) → W_X5_build p1 p2 p3 p4 v_start v_count v_kinds v_subjects v_nexts v_others v_tree_there v_tree_count v_tree_captures v_tree_ranges v_tree_sort v_tree_end v_tree_before v_tree_last v_tree_value v_tree_low v_tree_high Q) {Q : Int32 → Int32 → (Nat → Int32) → (Nat → Int32) → (Nat → Int32) → (Nat → Int32) → Prop} (a0 : 0 ≤ v_count.toInt) (a1 : v_count.toInt ≤ 512) (a2 : 0 ≤ v_tree_count.toInt) (a3 : v_tree_count.toInt ≤ 256) (a4 : 0 ≤ v_tree_ranges.toInt) (a5 : v_tree_ranges.toInt ≤ 512) (a6 : 0 ≤ p4.toInt) (a7 : p4.toInt ≤ 60) (a8 : (lv : Int) ≤ p4.toInt) (b0 : rp (fun k v => -1 ≤ v ∧ v ≤ 255) v_tree_last 0 v_tree_count.toInt) (b1 : rp (fun k v => k < v ∧ v ≤ 256) v_tree_end 0 v_tree_count.toInt) (b2 : rp (fun k v => v < k ∧ -1 ≤ v) v_tree_before 0 v_tree_count.toInt) (hq : ∀ (r : Int32) (ov_count : Int32) (ov_kinds : Nat → Int32) (ov_subjects : Nat → Int32) (ov_nexts : Nat → Int32) (ov_others : Nat → Int32), 0 ≤ ov_count.toInt + 1 → 0 ≤ ov_count.toInt → ov_count.toInt ≤ 512 → Q r ov_count ov_kinds ov_subjects ov_nexts ov_others) : w_X5_buildRow W_X5_build p1 p2 p3 p4 v_start v_count v_kinds v_subjects v_nexts v_others v_tree_there v_tree_count v_tree_captures v_tree_ranges v_tree_sort v_tree_end v_tree_before v_tree_last v_tree_value v_tree_low v_tree_high Q := by
  have q_t : (bz true).toInt = 1 := rfl
  have q_f : (bz false).toInt = 0 := rfl
  unfold w_X5_buildRow
  refine ok_X10_lastOf (by omega) (by omega) (rp_mono b0 (by omega) (by omega)) (fun r8 f1 => ?_)
  have j_13 : ∀ n_13 : Nat, ∀ (l5_13 : Int32) (l6_13 : Int32) (v_count_13 : Int32) (v_kinds_13 : Nat → Int32) (v_subjects_13 : Nat → Int32) (v_nexts_13 : Nat → Int32) (v_others_13 : Nat → Int32), 0 ≤ l6_13.toInt + 1 → l6_13.toInt ≤ r8.toInt → 0 ≤ v_count_13.toInt → v_count_13.toInt ≤ 512 → (l6_13.toInt + 2147483649).toNat < n_13 → w_X5_buildRow_13 W_X5_build p3 p4 v_start v_tree_there v_tree_count v_tree_captures v_tree_ranges v_tree_sort v_tree_end v_tree_before v_tree_last v_tree_value v_tree_low v_tree_high Q n_13 l5_13 l6_13 v_count_13 v_kinds_13 v_subjects_13 v_nexts_13 v_others_13 := by
    intro n_13
    induction n_13 with
    | zero =>
      intro l5_13 l6_13 v_count_13 v_kinds_13 v_subjects_13 v_nexts_13 v_others_13 f2 f3 f4 f5 hm_13
      exfalso; omega
    | succ n_13 ih_13 =>
      intro l5_13 l6_13 v_count_13 v_kinds_13 v_subjects_13 v_nexts_13 v_others_13 f2 f3 f4 f5 hm_13
      unfold w_X5_buildRow_13
      unfold w_X5_buildRow_13B
      refine ⟨fun c16 => ?_, fun c16 => ?_⟩
      · have f6 : l6_13.toInt = (-1) := i_eq (a := l6_13.toInt) (b := (-1)) rfl rfl c16
        exact hq l5_13 v_count_13 v_kinds_13 v_subjects_13 v_nexts_13 v_others_13 (by omega) (by omega) (by omega)
      · have f7 : l6_13.toInt ≠ (-1) := i_ne (a := l6_13.toInt) (b := (-1)) rfl rfl c16
        intro x28 ex28
        have f8 : x28.toInt = p4.toInt + 1 := i_add (a := p4.toInt) (b := 1) ex28 rfl rfl (by omega) (by omega)
        refine hW_X5_build l6_13 l5_13 p3 x28 v_start v_count_13 v_kinds_13 v_subjects_13 v_nexts_13 v_others_13 v_tree_there v_tree_count v_tree_captures v_tree_ranges v_tree_sort v_tree_end v_tree_before v_tree_last v_tree_value v_tree_low v_tree_high _ (by omega) (by omega) (by omega) (by omega) (by omega) (by omega) (by omega) (by omega) (by omega) (rp_mono b0 (by omega) (by omega)) (rp_mono b1 (by omega) (by omega)) (rp_mono b2 (by omega) (by omega)) (fun r29 r29_0 r29_1 r29_2 r29_3 r29_4 f9 f10 => ?_)
        refine ok_X10_beforeOf (by omega) (by omega) (rp_mono b2 (by omega) (by omega)) (fun r40 f11 => ?_)
        exact ih_13 r29 r40 r29_0 r29_1 r29_2 r29_3 r29_4 (by omega) (by omega) (by omega) (by omega) (by have h8_0 := i_rng l6_13; have h8_1 := i_rng r40; omega)
  exact ⟨(r8.toInt + 2147483649).toNat + 1, j_13   ((r8.toInt + 2147483649).toNat + 1) p2 r8 v_count v_kinds v_subjects v_nexts v_others (by omega) (by omega) (by omega) (by omega) (by omega)⟩
set_option maxHeartbeats 4000000 in
theorem okB_X5_build {p1 : Int32} {p2 : Int32} {p3 : Int32} {p4 : Int32} {v_start : Int32} {v_count : Int32} {v_kinds : Nat → Int32} {v_subjects : Nat → Int32} {v_nexts : Nat → Int32} {v_others : Nat → Int32} {v_tree_there : Bool} {v_tree_count : Int32} {v_tree_captures : Int32} {v_tree_ranges : Int32} {v_tree_sort : Nat → Int32} {v_tree_end : Nat → Int32} {v_tree_before : Nat → Int32} {v_tree_last : Nat → Int32} {v_tree_value : Nat → Int32} {v_tree_low : Nat → Int32} {v_tree_high : Nat → Int32} {W_X5_build : Int32 → Int32 → Int32 → Int32 → Int32 → Int32 → (Nat → Int32) → (Nat → Int32) → (Nat → Int32) → (Nat → Int32) → Bool → Int32 → Int32 → Int32 → (Nat → Int32) → (Nat → Int32) → (Nat → Int32) → (Nat → Int32) → (Nat → Int32) → (Nat → Int32) → (Nat → Int32) → (Int32 → Int32 → (Nat → Int32) → (Nat → Int32) → (Nat → Int32) → (Nat → Int32) → Prop) → Prop} {lv : Int} (hW_X5_build : ∀ (p1 : Int32) (p2 : Int32) (p3 : Int32) (p4 : Int32) (v_start : Int32) (v_count : Int32) (v_kinds : Nat → Int32) (v_subjects : Nat → Int32) (v_nexts : Nat → Int32) (v_others : Nat → Int32) (v_tree_there : Bool) (v_tree_count : Int32) (v_tree_captures : Int32) (v_tree_ranges : Int32) (v_tree_sort : Nat → Int32) (v_tree_end : Nat → Int32) (v_tree_before : Nat → Int32) (v_tree_last : Nat → Int32) (v_tree_value : Nat → Int32) (v_tree_low : Nat → Int32) (v_tree_high : Nat → Int32) (Q : Int32 → Int32 → (Nat → Int32) → (Nat → Int32) → (Nat → Int32) → (Nat → Int32) → Prop), 0 ≤ v_count.toInt → v_count.toInt ≤ 512 → 0 ≤ v_tree_count.toInt → v_tree_count.toInt ≤ 256 → 0 ≤ v_tree_ranges.toInt → v_tree_ranges.toInt ≤ 512 → 0 ≤ p4.toInt → p4.toInt ≤ 61 → (lv : Int) + 1 ≤ p4.toInt → rp (fun k v => -1 ≤ v ∧ v ≤ 255) v_tree_last 0 v_tree_count.toInt → rp (fun k v => k < v ∧ v ≤ 256) v_tree_end 0 v_tree_count.toInt → rp (fun k v => v < k ∧ -1 ≤ v) v_tree_before 0 v_tree_count.toInt → (∀ (r : Int32) (ov_count : Int32) (ov_kinds : Nat → Int32) (ov_subjects : Nat → Int32) (ov_nexts : Nat → Int32) (ov_others : Nat → Int32), 0 ≤ ov_count.toInt → ov_count.toInt ≤ 512 → Q r ov_count ov_kinds ov_subjects ov_nexts ov_others) → W_X5_build p1 p2 p3 p4 v_start v_count v_kinds v_subjects v_nexts v_others v_tree_there v_tree_count v_tree_captures v_tree_ranges v_tree_sort v_tree_end v_tree_before v_tree_last v_tree_value v_tree_low v_tree_high Q) {Q : Int32 → Int32 → (Nat → Int32) → (Nat → Int32) → (Nat → Int32) → (Nat → Int32) → Prop} (a0 : 0 ≤ v_count.toInt) (a1 : v_count.toInt ≤ 512) (a2 : 0 ≤ v_tree_count.toInt) (a3 : v_tree_count.toInt ≤ 256) (a4 : 0 ≤ v_tree_ranges.toInt) (a5 : v_tree_ranges.toInt ≤ 512) (a6 : 0 ≤ p4.toInt) (a7 : p4.toInt ≤ 61) (a8 : (lv : Int) ≤ p4.toInt) (b0 : rp (fun k v => -1 ≤ v ∧ v ≤ 255) v_tree_last 0 v_tree_count.toInt) (b1 : rp (fun k v => k < v ∧ v ≤ 256) v_tree_end 0 v_tree_count.toInt) (b2 : rp (fun k v => v < k ∧ -1 ≤ v) v_tree_before 0 v_tree_count.toInt) (hq : ∀ (r : Int32) (ov_count : Int32) (ov_kinds : Nat → Int32) (ov_subjects : Nat → Int32) (ov_nexts : Nat → Int32) (ov_others : Nat → Int32), 0 ≤ ov_count.toInt → ov_count.toInt ≤ 512 → Q r ov_count ov_kinds ov_subjects ov_nexts ov_others) : wB_X5_build W_X5_build p1 p2 p3 p4 v_start v_count v_kinds v_subjects v_nexts v_others v_tree_there v_tree_count v_tree_captures v_tree_ranges v_tree_sort v_tree_end v_tree_before v_tree_last v_tree_value v_tree_low v_tree_high Q := by
  have q_t : (bz true).toInt = 1 := rfl
  have q_f : (bz false).toInt = 0 := rfl
  have q_m1 : ((-1) : Int32).toInt = (-1) := rfl
  have q_0 : (0 : Int32).toInt = 0 := rfl
  have q_1 : (1 : Int32).toInt = 1 := rfl
  have q_2 : (2 : Int32).toInt = 2 := rfl
  have q_3 : (3 : Int32).toInt = 3 := rfl
  unfold wB_X5_build
  refine ⟨fun c4 => ?_, fun c4 => ?_⟩
  · have f1 : p4.toInt ≤ 60 := i_le (a := p4.toInt) (b := 60) rfl rfl c4
    refine ok_X10_sortOf (by omega) (by omega) (fun r14 f2 => ?_)
    have j_68 : ((r14.toInt = 0) ∨ (r14.toInt = 1) ∨ (r14.toInt = 2)) → w_X5_build_68 W_X5_build p1 p2 p3 Q v_count v_kinds v_subjects v_nexts v_others := by
      intro f3
      unfold w_X5_build_68
      refine ok_X5_add (by omega) (by omega) (fun r73 r73_0 r73_1 r73_2 r73_3 r73_4 f4 f5 => ?_)
      exact hq r73 r73_0 r73_1 r73_2 r73_3 r73_4 (by omega) (by omega)
    have j_174 : r14.toInt ≠ 0 → r14.toInt ≠ 1 → r14.toInt ≠ 2 → r14.toInt ≠ 3 → r14.toInt ≠ 5 → r14.toInt ≠ 6 → r14.toInt ≠ 7 → r14.toInt ≠ 8 → w_X5_build_174 W_X5_build p1 p2 p3 p4 v_start v_tree_there v_tree_count v_tree_captures v_tree_ranges v_tree_sort v_tree_end v_tree_before v_tree_last v_tree_value v_tree_low v_tree_high Q v_count v_kinds v_subjects v_nexts v_others := by
      intro f6 f7 f8 f9 f10 f11 f12 f13
      unfold w_X5_build_174
      refine ok_X10_firstOf (by omega) (by omega) (rp_mono b1 (by omega) (by omega)) (fun r180 f14 f15 => ?_)
      intro x188 ex188
      have f16 : x188.toInt = p4.toInt + 1 := i_add (a := p4.toInt) (b := 1) ex188 rfl rfl (by omega) (by omega)
      refine hW_X5_build r180 p2 p3 x188 v_start v_count v_kinds v_subjects v_nexts v_others v_tree_there v_tree_count v_tree_captures v_tree_ranges v_tree_sort v_tree_end v_tree_before v_tree_last v_tree_value v_tree_low v_tree_high _ (by omega) (by omega) (by omega) (by omega) (by omega) (by omega) (by omega) (by omega) (by omega) (rp_mono b0 (by omega) (by omega)) (rp_mono b1 (by omega) (by omega)) (rp_mono b2 (by omega) (by omega)) (fun r189 r189_0 r189_1 r189_2 r189_3 r189_4 f17 f18 => ?_)
      exact hq r189 r189_0 r189_1 r189_2 r189_3 r189_4 (by omega) (by omega)
    refine ⟨fun c17_0 => ?_, fun c17_1 => ?_, fun c17_2 => ?_, fun c17_3 => ?_, fun c17_4 => ?_, fun c17_5 => ?_, fun c17_6 => ?_, fun c17_7 => ?_, ?_⟩
    · have f19 : r14.toInt = 0 := i_eq (a := r14.toInt) (b := 0) rfl rfl c17_0
      exact j_68  (by omega)
    · have f20 : r14.toInt = 1 := i_eq (a := r14.toInt) (b := 1) rfl rfl c17_1
      exact j_68  (by omega)
    · have f21 : r14.toInt = 2 := i_eq (a := r14.toInt) (b := 2) rfl rfl c17_2
      exact j_68  (by omega)
    · have f22 : r14.toInt = 3 := i_eq (a := r14.toInt) (b := 3) rfl rfl c17_3
      refine ok_X10_valueOf (by omega) (by omega) (fun r84 f23 => ?_)
      refine ok_X5_add (by omega) (by omega) (fun r89 r89_0 r89_1 r89_2 r89_3 r89_4 f24 f25 => ?_)
      exact hq r89 r89_0 r89_1 r89_2 r89_3 r89_4 (by omega) (by omega)
    · have f26 : r14.toInt = 5 := i_eq (a := r14.toInt) (b := 5) rfl rfl c17_4
      refine ok_X5_buildRow (lv := lv) hW_X5_build (by omega) (by omega) (by omega) (by omega) (by omega) (by omega) (by omega) (by omega) (by omega) (rp_mono b0 (by omega) (by omega)) (rp_mono b1 (by omega) (by omega)) (rp_mono b2 (by omega) (by omega)) (fun r99 r99_0 r99_1 r99_2 r99_3 r99_4 f27 f28 f29 => ?_)
      exact hq r99 r99_0 r99_1 r99_2 r99_3 r99_4 (by omega) (by omega)
    · have f30 : r14.toInt = 6 := i_eq (a := r14.toInt) (b := 6) rfl rfl c17_5
      refine ok_X5_buildChoice (lv := lv) hW_X5_build (by omega) (by omega) (by omega) (by omega) (by omega) (by omega) (by omega) (by omega) (by omega) (rp_mono b0 (by omega) (by omega)) (rp_mono b1 (by omega) (by omega)) (rp_mono b2 (by omega) (by omega)) (fun r109 r109_0 r109_1 r109_2 r109_3 r109_4 f31 f32 f33 => ?_)
      exact hq r109 r109_0 r109_1 r109_2 r109_3 r109_4 (by omega) (by omega)
    · have f34 : r14.toInt = 7 := i_eq (a := r14.toInt) (b := 7) rfl rfl c17_6
      refine ok_X5_buildLoop (lv := lv) hW_X5_build (by omega) (by omega) (by omega) (by omega) (by omega) (by omega) (by omega) (by omega) (by omega) (rp_mono b0 (by omega) (by omega)) (rp_mono b1 (by omega) (by omega)) (rp_mono b2 (by omega) (by omega)) (fun r119 r119_0 r119_1 r119_2 r119_3 r119_4 f35 f36 f37 => ?_)
      exact hq r119 r119_0 r119_1 r119_2 r119_3 r119_4 (by omega) (by omega)
    · have f38 : r14.toInt = 8 := i_eq (a := r14.toInt) (b := 8) rfl rfl c17_7
      refine ok_X10_valueOf (by omega) (by omega) (fun r130 f39 => ?_)
      refine ok_X5_add (by omega) (by omega) (fun r135 r135_0 r135_1 r135_2 r135_3 r135_4 f40 f41 => ?_)
      refine ok_X10_valueOf (by omega) (by omega) (fun r147 f42 => ?_)
      refine ok_X10_firstOf (by omega) (by omega) (rp_mono b1 (by omega) (by omega)) (fun r156 f43 f44 => ?_)
      intro x165 ex165
      have f45 : x165.toInt = p4.toInt + 1 := i_add (a := p4.toInt) (b := 1) ex165 rfl rfl (by omega) (by omega)
      refine hW_X5_build r156 r135 p3 x165 v_start r135_0 r135_1 r135_2 r135_3 r135_4 v_tree_there v_tree_count v_tree_captures v_tree_ranges v_tree_sort v_tree_end v_tree_before v_tree_last v_tree_value v_tree_low v_tree_high _ (by omega) (by omega) (by omega) (by omega) (by omega) (by omega) (by omega) (by omega) (by omega) (rp_mono b0 (by omega) (by omega)) (rp_mono b1 (by omega) (by omega)) (rp_mono b2 (by omega) (by omega)) (fun r166 r166_0 r166_1 r166_2 r166_3 r166_4 f46 f47 => ?_)
      refine ok_X5_add (by omega) (by omega) (fun r170 r170_0 r170_1 r170_2 r170_3 r170_4 f48 f49 => ?_)
      exact hq r170 r170_0 r170_1 r170_2 r170_3 r170_4 (by omega) (by omega)
    · intro c17_0 c17_1 c17_2 c17_3 c17_4 c17_5 c17_6 c17_7
      have f50 : r14.toInt ≠ 0 := i_ne (a := r14.toInt) (b := 0) rfl rfl c17_0
      have f51 : r14.toInt ≠ 1 := i_ne (a := r14.toInt) (b := 1) rfl rfl c17_1
      have f52 : r14.toInt ≠ 2 := i_ne (a := r14.toInt) (b := 2) rfl rfl c17_2
      have f53 : r14.toInt ≠ 3 := i_ne (a := r14.toInt) (b := 3) rfl rfl c17_3
      have f54 : r14.toInt ≠ 5 := i_ne (a := r14.toInt) (b := 5) rfl rfl c17_4
      have f55 : r14.toInt ≠ 6 := i_ne (a := r14.toInt) (b := 6) rfl rfl c17_5
      have f56 : r14.toInt ≠ 7 := i_ne (a := r14.toInt) (b := 7) rfl rfl c17_6
      have f57 : r14.toInt ≠ 8 := i_ne (a := r14.toInt) (b := 8) rfl rfl c17_7
      exact j_174  (by omega) (by omega) (by omega) (by omega) (by omega) (by omega) (by omega) (by omega)
  · have f58 : 60 < p4.toInt := i_nle (a := p4.toInt) (b := 60) rfl rfl c4
    exact hq p2 v_count v_kinds v_subjects v_nexts v_others (by omega) (by omega)

set_option maxHeartbeats 4000000 in
theorem okN_X5_build (n9 : Nat) : ∀ (p1 : Int32) (p2 : Int32) (p3 : Int32) (p4 : Int32) (v_start : Int32) (v_count : Int32) (v_kinds : Nat → Int32) (v_subjects : Nat → Int32) (v_nexts : Nat → Int32) (v_others : Nat → Int32) (v_tree_there : Bool) (v_tree_count : Int32) (v_tree_captures : Int32) (v_tree_ranges : Int32) (v_tree_sort : Nat → Int32) (v_tree_end : Nat → Int32) (v_tree_before : Nat → Int32) (v_tree_last : Nat → Int32) (v_tree_value : Nat → Int32) (v_tree_low : Nat → Int32) (v_tree_high : Nat → Int32) (Q : Int32 → Int32 → (Nat → Int32) → (Nat → Int32) → (Nat → Int32) → (Nat → Int32) → Prop), 61 - p4.toInt < (n9 : Int) → 0 ≤ v_count.toInt → v_count.toInt ≤ 512 → 0 ≤ v_tree_count.toInt → v_tree_count.toInt ≤ 256 → 0 ≤ v_tree_ranges.toInt → v_tree_ranges.toInt ≤ 512 → 0 ≤ p4.toInt → p4.toInt ≤ 61 → rp (fun k v => -1 ≤ v ∧ v ≤ 255) v_tree_last 0 v_tree_count.toInt → rp (fun k v => k < v ∧ v ≤ 256) v_tree_end 0 v_tree_count.toInt → rp (fun k v => v < k ∧ -1 ≤ v) v_tree_before 0 v_tree_count.toInt → (∀ (r : Int32) (ov_count : Int32) (ov_kinds : Nat → Int32) (ov_subjects : Nat → Int32) (ov_nexts : Nat → Int32) (ov_others : Nat → Int32), 0 ≤ ov_count.toInt → ov_count.toInt ≤ 512 → Q r ov_count ov_kinds ov_subjects ov_nexts ov_others) → w_X5_build n9 p1 p2 p3 p4 v_start v_count v_kinds v_subjects v_nexts v_others v_tree_there v_tree_count v_tree_captures v_tree_ranges v_tree_sort v_tree_end v_tree_before v_tree_last v_tree_value v_tree_low v_tree_high Q := by
  induction n9 with
  | zero => intro p1 p2 p3 p4 v_start v_count v_kinds v_subjects v_nexts v_others v_tree_there v_tree_count v_tree_captures v_tree_ranges v_tree_sort v_tree_end v_tree_before v_tree_last v_tree_value v_tree_low v_tree_high Q hn a0 a1 a2 a3 a4 a5 a6 a7 b0 b1 b2 hq; exfalso; omega
  | succ n9 ih =>
    intro p1 p2 p3 p4 v_start v_count v_kinds v_subjects v_nexts v_others v_tree_there v_tree_count v_tree_captures v_tree_ranges v_tree_sort v_tree_end v_tree_before v_tree_last v_tree_value v_tree_low v_tree_high Q hn a0 a1 a2 a3 a4 a5 a6 a7 b0 b1 b2 hq
    unfold w_X5_build
    exact okB_X5_build (lv := p4.toInt) (fun p1 p2 p3 p4 v_start v_count v_kinds v_subjects v_nexts v_others v_tree_there v_tree_count v_tree_captures v_tree_ranges v_tree_sort v_tree_end v_tree_before v_tree_last v_tree_value v_tree_low v_tree_high Q a0 a1 a2 a3 a4 a5 a6 a7 a8 b0 b1 b2 hq => ih p1 p2 p3 p4 v_start v_count v_kinds v_subjects v_nexts v_others v_tree_there v_tree_count v_tree_captures v_tree_ranges v_tree_sort v_tree_end v_tree_before v_tree_last v_tree_value v_tree_low v_tree_high Q (by omega) a0 a1 a2 a3 a4 a5 a6 a7 b0 b1 b2 hq) (by omega) (by omega) (by omega) (by omega) (by omega) (by omega) (by omega) (by omega) (by omega) b0 b1 b2 (fun r ov_count ov_kinds ov_subjects ov_nexts ov_others f0 f1 => hq r ov_count ov_kinds ov_subjects ov_nexts ov_others (by omega) (by omega))
theorem ok_X5_build {p1 : Int32} {p2 : Int32} {p3 : Int32} {p4 : Int32} {v_start : Int32} {v_count : Int32} {v_kinds : Nat → Int32} {v_subjects : Nat → Int32} {v_nexts : Nat → Int32} {v_others : Nat → Int32} {v_tree_there : Bool} {v_tree_count : Int32} {v_tree_captures : Int32} {v_tree_ranges : Int32} {v_tree_sort : Nat → Int32} {v_tree_end : Nat → Int32} {v_tree_before : Nat → Int32} {v_tree_last : Nat → Int32} {v_tree_value : Nat → Int32} {v_tree_low : Nat → Int32} {v_tree_high : Nat → Int32} {Q : Int32 → Int32 → (Nat → Int32) → (Nat → Int32) → (Nat → Int32) → (Nat → Int32) → Prop} (a0 : 0 ≤ v_count.toInt) (a1 : v_count.toInt ≤ 512) (a2 : 0 ≤ v_tree_count.toInt) (a3 : v_tree_count.toInt ≤ 256) (a4 : 0 ≤ v_tree_ranges.toInt) (a5 : v_tree_ranges.toInt ≤ 512) (a6 : 0 ≤ p4.toInt) (a7 : p4.toInt ≤ 61) (b0 : rp (fun k v => -1 ≤ v ∧ v ≤ 255) v_tree_last 0 v_tree_count.toInt) (b1 : rp (fun k v => k < v ∧ v ≤ 256) v_tree_end 0 v_tree_count.toInt) (b2 : rp (fun k v => v < k ∧ -1 ≤ v) v_tree_before 0 v_tree_count.toInt) (hq : ∀ (r : Int32) (ov_count : Int32) (ov_kinds : Nat → Int32) (ov_subjects : Nat → Int32) (ov_nexts : Nat → Int32) (ov_others : Nat → Int32), 0 ≤ ov_count.toInt → ov_count.toInt ≤ 512 → Q r ov_count ov_kinds ov_subjects ov_nexts ov_others) : w_X5_build 64 p1 p2 p3 p4 v_start v_count v_kinds v_subjects v_nexts v_others v_tree_there v_tree_count v_tree_captures v_tree_ranges v_tree_sort v_tree_end v_tree_before v_tree_last v_tree_value v_tree_low v_tree_high Q :=
  okN_X5_build 64 p1 p2 p3 p4 v_start v_count v_kinds v_subjects v_nexts v_others v_tree_there v_tree_count v_tree_captures v_tree_ranges v_tree_sort v_tree_end v_tree_before v_tree_last v_tree_value v_tree_low v_tree_high Q (by omega) a0 a1 a2 a3 a4 a5 a6 a7 b0 b1 b2 hq
set_option maxHeartbeats 4000000 in
theorem ok_X5_write {v_start : Int32} {v_kinds : Nat → Int32} {v_subjects : Nat → Int32} {v_nexts : Nat → Int32} {v_others : Nat → Int32} {a1_there : Bool} {a1_count : Int32} {a1_captures : Int32} {a1_ranges : Int32} {a1_sort : Nat → Int32} {a1_end : Nat → Int32} {a1_before : Nat → Int32} {a1_last : Nat → Int32} {a1_value : Nat → Int32} {a1_low : Nat → Int32} {a1_high : Nat → Int32} {Q : Int32 → Int32 → (Nat → Int32) → (Nat → Int32) → (Nat → Int32) → (Nat → Int32) → Prop} (a0 : 0 ≤ a1_count.toInt) (a1 : a1_count.toInt ≤ 256) (a2 : 0 ≤ a1_ranges.toInt) (a3 : a1_ranges.toInt ≤ 512) (b0 : rp (fun k v => -1 ≤ v ∧ v ≤ 255) a1_last 0 a1_count.toInt) (b1 : rp (fun k v => k < v ∧ v ≤ 256) a1_end 0 a1_count.toInt) (b2 : rp (fun k v => v < k ∧ -1 ≤ v) a1_before 0 a1_count.toInt) (hq : ∀ (ov_start : Int32) (ov_count : Int32) (ov_kinds : Nat → Int32) (ov_subjects : Nat → Int32) (ov_nexts : Nat → Int32) (ov_others : Nat → Int32), 0 ≤ ov_count.toInt → ov_count.toInt ≤ 512 → Q ov_start ov_count ov_kinds ov_subjects ov_nexts ov_others) : w_X5_write v_start v_kinds v_subjects v_nexts v_others a1_there a1_count a1_captures a1_ranges a1_sort a1_end a1_before a1_last a1_value a1_low a1_high Q := by
  have q_t : (bz true).toInt = 1 := rfl
  have q_f : (bz false).toInt = 0 := rfl
  have q_m1 : ((-1) : Int32).toInt = (-1) := rfl
  have q_0 : (0 : Int32).toInt = 0 := rfl
  have q_6 : (6 : Int32).toInt = 6 := rfl
  unfold w_X5_write
  refine ok_X5_add (by omega) (by omega) (fun r19 r19_0 r19_1 r19_2 r19_3 r19_4 f1 f2 => ?_)
  refine ok_X5_build (by omega) (by omega) (by omega) (by omega) (by omega) (by omega) (by omega) (by omega) (rp_mono b0 (by omega) (by omega)) (rp_mono b1 (by omega) (by omega)) (rp_mono b2 (by omega) (by omega)) (fun r24 r24_0 r24_1 r24_2 r24_3 r24_4 f3 f4 => ?_)
  exact hq r24 r24_0 r24_1 r24_2 r24_3 r24_4 (by omega) (by omega)
set_option maxHeartbeats 4000000 in
theorem ok_X9_groupOf {p1 : Int32} {v_groups : Nat → Int32} {Q : Int32 → Prop} (hq : ∀ (r : Int32), ((0 ≤ p1.toInt ∧ p1.toInt ≤ 59) ∨ (r.toInt + 1 = 0)) → Q r) : w_X9_groupOf p1 v_groups Q := by
  have q_t : (bz true).toInt = 1 := rfl
  have q_f : (bz false).toInt = 0 := rfl
  have q_m1 : ((-1) : Int32).toInt = (-1) := rfl
  unfold w_X9_groupOf
  have j_20 : ∀ (s0_20 : Int32), ((0 ≤ p1.toInt ∧ p1.toInt ≤ 59) ∨ (s0_20.toInt + 1 = 0)) → w_X9_groupOf_20 Q s0_20 := by
    intro s0_20 f1
    unfold w_X9_groupOf_20
    exact hq s0_20 (by omega)
  have j_19 : ((p1.toInt + 1 ≤ 0) ∨ (0 ≤ p1.toInt ∧ 60 ≤ p1.toInt)) → w_X9_groupOf_19 Q := by
    intro f2
    unfold w_X9_groupOf_19
    exact j_20 (-1) (by omega)
  refine ⟨fun c1 => ?_, fun c1 => ?_⟩
  · have f3 : p1.toInt < 0 := i_lt (a := p1.toInt) (b := 0) rfl rfl c1
    exact j_19  (by omega)
  · have f4 : 0 ≤ p1.toInt := i_nlt (a := p1.toInt) (b := 0) rfl rfl c1
    refine ⟨fun c7 => ?_, fun c7 => ?_⟩
    · have f5 : 60 ≤ p1.toInt := i_le (a := 60) (b := p1.toInt) rfl rfl c7
      exact j_19  (by omega)
    · have f6 : p1.toInt < 60 := i_nle (a := 60) (b := p1.toInt) rfl rfl c7
      refine ⟨i_in (by omega) (by omega), ?_⟩
      intro x15 ex15
      exact j_20 x15 (by omega)
set_option maxHeartbeats 4000000 in
theorem ok_X9_ends {p1 : Int32} {v_count : Int32} {v_ahead : Nat → Int64} {Q : Int32 → Prop} (a0 : 0 ≤ v_count.toInt) (a1 : v_count.toInt ≤ 60) (hq : ∀ (r : Int32), ((r.toInt = 1 ∧ 0 ≤ p1.toInt ∧ p1.toInt + 1 ≤ v_count.toInt) ∨ (r.toInt = 0)) → Q r) : w_X9_ends p1 v_count v_ahead Q := by
  have q_t : (bz true).toInt = 1 := rfl
  have q_f : (bz false).toInt = 0 := rfl
  have q_0 : (0 : Int32).toInt = 0 := rfl
  have q_1 : (1 : Int32).toInt = 1 := rfl
  unfold w_X9_ends
  have j_32 : ∀ (s0_32 : Int32), ((s0_32.toInt = 1 ∧ 0 ≤ p1.toInt ∧ p1.toInt + 1 ≤ v_count.toInt) ∨ (s0_32.toInt = 0)) → w_X9_ends_32 Q s0_32 := by
    intro s0_32 f1
    unfold w_X9_ends_32
    refine ⟨i_01 (by omega) (by omega), ?_⟩
    exact hq s0_32 (by omega)
  have j_31 : ((p1.toInt + 1 ≤ 0) ∨ (0 ≤ p1.toInt ∧ v_count.toInt ≤ p1.toInt) ∨ (0 ≤ p1.toInt ∧ p1.toInt + 1 ≤ v_count.toInt)) → w_X9_ends_31 Q := by
    intro f2
    unfold w_X9_ends_31
    exact j_32 0 (by omega)
  refine ⟨fun c1 => ?_, fun c1 => ?_⟩
  · have f3 : p1.toInt < 0 := i_lt (a := p1.toInt) (b := 0) rfl rfl c1
    exact j_31  (by omega)
  · have f4 : 0 ≤ p1.toInt := i_nlt (a := p1.toInt) (b := 0) rfl rfl c1
    refine ⟨fun c9 => ?_, fun c9 => ?_⟩
    · have f5 : v_count.toInt ≤ p1.toInt := i_le (a := v_count.toInt) (b := p1.toInt) rfl rfl c9
      exact j_31  (by omega)
    · have f6 : p1.toInt < v_count.toInt := i_nle (a := v_count.toInt) (b := p1.toInt) rfl rfl c9
      refine ⟨i_in (by omega) (by omega), ?_⟩
      intro y17 ey17
      intro y21 ey21
      intro x23 ex23
      have f7 : (0 ≤ x23.toInt + 1 ∧ x23.toInt ≤ 1) := by have h9 := i_cmp ex23; omega
      refine ⟨fun c24 => ?_, fun c24 => ?_⟩
      · have f8 : x23.toInt = 0 := i_eq (a := x23.toInt) (b := 0) rfl rfl c24
        exact j_31  (by omega)
      · have f9 : x23.toInt ≠ 0 := i_ne (a := x23.toInt) (b := 0) rfl rfl c24
        exact j_32 1 (by omega)
set_option maxHeartbeats 4000000 in
theorem ok_X9_takersOf {p1 : Int32} {v_positionCount : Int32} {v_program_count : Int32} {v_program_subjects : Nat → Int32} {v_pcOf : Nat → Int32} {v_program_tree_count : Int32} {v_program_tree_ranges : Int32} {v_program_tree_sort : Nat → Int32} {v_program_tree_value : Nat → Int32} {v_program_tree_low : Nat → Int32} {v_program_tree_high : Nat → Int32} {v_program_tree_withinCase : Nat → Bool} {v_program_tree_rangeBegin : Nat → Int32} {v_program_tree_rangeEnd : Nat → Int32} {Q : Int64 → Prop} (a0 : 0 ≤ v_positionCount.toInt) (a1 : v_positionCount.toInt ≤ 60) (a2 : 0 ≤ v_program_count.toInt) (a3 : v_program_count.toInt ≤ 512) (a4 : 0 ≤ v_program_tree_count.toInt) (a5 : v_program_tree_count.toInt ≤ 256) (a6 : 0 ≤ v_program_tree_ranges.toInt) (a7 : v_program_tree_ranges.toInt ≤ 512) (hq : ∀ (r : Int64), Q r) : w_X9_takersOf p1 v_positionCount v_program_count v_program_subjects v_pcOf v_program_tree_count v_program_tree_ranges v_program_tree_sort v_program_tree_value v_program_tree_low v_program_tree_high v_program_tree_withinCase v_program_tree_rangeBegin v_program_tree_rangeEnd Q := by
  have q_t : (bz true).toInt = 1 := rfl
  have q_f : (bz false).toInt = 0 := rfl
  have q_0 : (0 : Int32).toInt = 0 := rfl
  unfold w_X9_takersOf
  have j_5 : ∀ n_5 : Nat, ∀ (l2_5 : Int64) (l4_5 : Int32), 0 ≤ l4_5.toInt → l4_5.toInt ≤ v_positionCount.toInt → ((-1) * l4_5.toInt + 2147483648).toNat < n_5 → w_X9_takersOf_5 p1 v_positionCount v_program_count v_program_subjects v_pcOf v_program_tree_count v_program_tree_ranges v_program_tree_sort v_program_tree_value v_program_tree_low v_program_tree_high v_program_tree_withinCase v_program_tree_rangeBegin v_program_tree_rangeEnd Q n_5 l2_5 l4_5 := by
    intro n_5
    induction n_5 with
    | zero =>
      intro l2_5 l4_5 f1 f2 hm_5
      exfalso; omega
    | succ n_5 ih_5 =>
      intro l2_5 l4_5 f1 f2 hm_5
      unfold w_X9_takersOf_5
      unfold w_X9_takersOf_5B
      refine ⟨fun c11 => ?_, fun c11 => ?_⟩
      · have f3 : v_positionCount.toInt ≤ l4_5.toInt := i_le (a := v_positionCount.toInt) (b := l4_5.toInt) rfl rfl c11
        exact hq l2_5 
      · have f4 : l4_5.toInt < v_positionCount.toInt := i_nle (a := v_positionCount.toInt) (b := l4_5.toInt) rfl rfl c11
        refine ⟨i_in (by omega) (by omega), ?_⟩
        intro x24 ex24
        refine ok_X5_takes (by omega) (by omega) (by omega) (by omega) (by omega) (by omega) (fun r26 f5 f6 => ?_)
        have j_39 : ∀ (l2_39 : Int64), w_X9_takersOf_39 Q (w_X9_takersOf_5 p1 v_positionCount v_program_count v_program_subjects v_pcOf v_program_tree_count v_program_tree_ranges v_program_tree_sort v_program_tree_value v_program_tree_low v_program_tree_high v_program_tree_withinCase v_program_tree_rangeBegin v_program_tree_rangeEnd Q n_5) l2_39 l4_5 := by
          intro l2_39
          unfold w_X9_takersOf_39
          intro x39 ex39
          have f7 : x39.toInt = l4_5.toInt + 1 := i_add (a := l4_5.toInt) (b := 1) ex39 rfl rfl (by omega) (by omega)
          exact ih_5 l2_39 x39 (by omega) (by omega) (by have h8_0 := i_rng l4_5; have h8_1 := i_rng x39; omega)
        refine ⟨fun c29 => ?_, fun c29 => ?_⟩
        · have f8 : r26.toInt = 0 := i_eq (a := r26.toInt) (b := 0) rfl rfl c29
          exact j_39 l2_5 
        · have f9 : r26.toInt ≠ 0 := i_ne (a := r26.toInt) (b := 0) rfl rfl c29
          intro y36 ey36
          intro y37 ey37
          exact j_39 y37 
  exact ⟨(2147483648 : Int).toNat + 1, j_5   ((2147483648 : Int).toNat + 1) 0 0 (by omega) (by omega) (by omega)⟩
set_option maxHeartbeats 4000000 in
theorem ok_X9_followOf {p1 : Int64} {v_positionCount : Int32} {v_follow : Nat → Int64} {Q : Int64 → Prop} (a0 : 0 ≤ v_positionCount.toInt) (a1 : v_positionCount.toInt ≤ 60) (hq : ∀ (r : Int64), Q r) : w_X9_followOf p1 v_positionCount v_follow Q := by
  have q_t : (bz true).toInt = 1 := rfl
  have q_f : (bz false).toInt = 0 := rfl
  have q_0 : (0 : Int32).toInt = 0 := rfl
  unfold w_X9_followOf
  have j_5 : ∀ n_5 : Nat, ∀ (l3_5 : Int64) (l5_5 : Int32), 0 ≤ l5_5.toInt → l5_5.toInt ≤ v_positionCount.toInt → ((-1) * l5_5.toInt + 2147483648).toNat < n_5 → w_X9_followOf_5 p1 v_positionCount v_follow Q n_5 l3_5 l5_5 := by
    intro n_5
    induction n_5 with
    | zero =>
      intro l3_5 l5_5 f1 f2 hm_5
      exfalso; omega
    | succ n_5 ih_5 =>
      intro l3_5 l5_5 f1 f2 hm_5
      unfold w_X9_followOf_5
      unfold w_X9_followOf_5B
      refine ⟨fun c11 => ?_, fun c11 => ?_⟩
      · have f3 : v_positionCount.toInt ≤ l5_5.toInt := i_le (a := v_positionCount.toInt) (b := l5_5.toInt) rfl rfl c11
        exact hq l3_5 
      · have f4 : l5_5.toInt < v_positionCount.toInt := i_nle (a := v_positionCount.toInt) (b := l5_5.toInt) rfl rfl c11
        intro y17 ey17
        intro y19 ey19
        intro x21 ex21
        have f5 : (0 ≤ x21.toInt + 1 ∧ x21.toInt ≤ 1) := by have h9 := i_cmp ex21; omega
        have j_35 : ∀ (l3_35 : Int64), w_X9_followOf_35 Q (w_X9_followOf_5 p1 v_positionCount v_follow Q n_5) l3_35 l5_5 := by
          intro l3_35
          unfold w_X9_followOf_35
          intro x35 ex35
          have f6 : x35.toInt = l5_5.toInt + 1 := i_add (a := l5_5.toInt) (b := 1) ex35 rfl rfl (by omega) (by omega)
          exact ih_5 l3_35 x35 (by omega) (by omega) (by have h8_0 := i_rng l5_5; have h8_1 := i_rng x35; omega)
        refine ⟨fun c22 => ?_, fun c22 => ?_⟩
        · have f7 : x21.toInt ≠ 0 := i_ne (a := x21.toInt) (b := 0) rfl rfl c22
          exact j_35 l3_5 
        · have f8 : x21.toInt = 0 := i_eq (a := x21.toInt) (b := 0) rfl rfl c22
          refine ⟨i_in (by omega) (by omega), ?_⟩
          intro y32 ey32
          intro y33 ey33
          exact j_35 y33 
  exact ⟨(2147483648 : Int).toNat + 1, j_5   ((2147483648 : Int).toNat + 1) 0 0 (by omega) (by omega) (by omega)⟩
set_option maxHeartbeats 4000000 in
theorem ok_X9_next {p1 : Int32} {p2 : Int32} {v_count : Int32} {v_width : Int32} {v_goes : Nat → Int32} {Q : Int32 → Prop} (a0 : 0 ≤ v_count.toInt) (a1 : v_count.toInt ≤ 60) (a2 : 0 ≤ v_width.toInt) (a3 : v_width.toInt ≤ 256) (hq : ∀ (r : Int32), Q r) : w_X9_next p1 p2 v_count v_width v_goes Q := by
  have q_t : (bz true).toInt = 1 := rfl
  have q_f : (bz false).toInt = 0 := rfl
  have q_0 : (0 : Int32).toInt = 0 := rfl
  have q_1 : (1 : Int32).toInt = 1 := rfl
  unfold w_X9_next
  have j_29 : ∀ (s0_29 : Int32), ((s0_29.toInt = 1 ∧ 0 ≤ p1.toInt ∧ p1.toInt + 1 ≤ v_count.toInt ∧ 0 ≤ p2.toInt ∧ p2.toInt + 1 ≤ v_width.toInt) ∨ (s0_29.toInt = 0)) → w_X9_next_29 p1 p2 v_goes Q s0_29 := by
    intro s0_29 f1
    unfold w_X9_next_29
    have j_50 : ∀ (s0_50 : Int32), w_X9_next_50 Q s0_50 := by
      intro s0_50
      unfold w_X9_next_50
      exact hq s0_50 
    refine ⟨fun c31 => ?_, fun c31 => ?_⟩
    · have f2 : s0_29.toInt = 0 := i_eq (a := s0_29.toInt) (b := 0) rfl rfl c31
      exact j_50 0 
    · have f3 : s0_29.toInt ≠ 0 := i_ne (a := s0_29.toInt) (b := 0) rfl rfl c31
      intro x42 ex42
      have f4 : x42.toInt = p1.toInt * 256 := i_mul (a := p1.toInt) (b := 256) ex42 rfl rfl (by omega) (by omega)
      intro x44 ex44
      have f5 : x44.toInt = x42.toInt + p2.toInt := i_add (a := x42.toInt) (b := p2.toInt) ex44 rfl rfl (by omega) (by omega)
      refine ⟨i_in (by omega) (by omega), ?_⟩
      intro x45 ex45
      exact j_50 x45 
  have j_28 : w_X9_next_28 p1 p2 v_goes Q := by
    unfold w_X9_next_28
    exact j_29 0 (by omega)
  refine ⟨fun c1 => ?_, fun c1 => ?_⟩
  · have f6 : p1.toInt < 0 := i_lt (a := p1.toInt) (b := 0) rfl rfl c1
    exact j_28  
  · have f7 : 0 ≤ p1.toInt := i_nlt (a := p1.toInt) (b := 0) rfl rfl c1
    refine ⟨fun c9 => ?_, fun c9 => ?_⟩
    · have f8 : v_count.toInt ≤ p1.toInt := i_le (a := v_count.toInt) (b := p1.toInt) rfl rfl c9
      exact j_28  
    · have f9 : p1.toInt < v_count.toInt := i_nle (a := v_count.toInt) (b := p1.toInt) rfl rfl c9
      refine ⟨fun c13 => ?_, fun c13 => ?_⟩
      · have f10 : p2.toInt < 0 := i_lt (a := p2.toInt) (b := 0) rfl rfl c13
        exact j_28  
      · have f11 : 0 ≤ p2.toInt := i_nlt (a := p2.toInt) (b := 0) rfl rfl c13
        refine ⟨fun c21 => ?_, fun c21 => ?_⟩
        · have f12 : v_width.toInt ≤ p2.toInt := i_le (a := v_width.toInt) (b := p2.toInt) rfl rfl c21
          exact j_28  
        · have f13 : p2.toInt < v_width.toInt := i_nle (a := v_width.toInt) (b := p2.toInt) rfl rfl c21
          exact j_29 1 (by omega)
set_option maxHeartbeats 4000000 in
theorem ok_X9_leadsToLive {p1 : Int32} {v_count : Int32} {v_width : Int32} {v_goes : Nat → Int32} {v_live : Nat → Bool} {Q : Int32 → Prop} (a0 : 0 ≤ v_count.toInt) (a1 : v_count.toInt ≤ 60) (a2 : 0 ≤ v_width.toInt) (a3 : v_width.toInt ≤ 256) (hq : ∀ (r : Int32), ((r.toInt = 0) ∨ (r.toInt = 1)) → Q r) : w_X9_leadsToLive p1 v_count v_width v_goes v_live Q := by
  have q_t : (bz true).toInt = 1 := rfl
  have q_f : (bz false).toInt = 0 := rfl
  have q_0 : (0 : Int32).toInt = 0 := rfl
  have q_1 : (1 : Int32).toInt = 1 := rfl
  unfold w_X9_leadsToLive
  have j_2 : ∀ n_2 : Nat, ∀ (l2_2 : Int32), 0 ≤ l2_2.toInt → l2_2.toInt ≤ v_width.toInt → ((-1) * l2_2.toInt + 2147483648).toNat < n_2 → w_X9_leadsToLive_2 p1 v_count v_width v_goes v_live Q n_2 l2_2 := by
    intro n_2
    induction n_2 with
    | zero =>
      intro l2_2 f1 f2 hm_2
      exfalso; omega
    | succ n_2 ih_2 =>
      intro l2_2 f1 f2 hm_2
      unfold w_X9_leadsToLive_2
      unfold w_X9_leadsToLive_2B
      refine ⟨fun c7 => ?_, fun c7 => ?_⟩
      · have f3 : v_width.toInt ≤ l2_2.toInt := i_le (a := v_width.toInt) (b := l2_2.toInt) rfl rfl c7
        exact hq 0 (by omega)
      · have f4 : l2_2.toInt < v_width.toInt := i_nle (a := v_width.toInt) (b := l2_2.toInt) rfl rfl c7
        refine ok_X9_next (by omega) (by omega) (by omega) (by omega) (fun r13 => ?_)
        have j_38 : w_X9_leadsToLive_38 Q (w_X9_leadsToLive_2 p1 v_count v_width v_goes v_live Q n_2) l2_2 := by
          unfold w_X9_leadsToLive_38
          intro x38 ex38
          have f5 : x38.toInt = l2_2.toInt + 1 := i_add (a := l2_2.toInt) (b := 1) ex38 rfl rfl (by omega) (by omega)
          exact ih_2 x38 (by omega) (by omega) (by have h8_0 := i_rng l2_2; have h8_1 := i_rng x38; omega)
        refine ⟨fun c18 => ?_, fun c18 => ?_⟩
        · have f6 : r13.toInt < 0 := i_lt (a := r13.toInt) (b := 0) rfl rfl c18
          exact j_38  
        · have f7 : 0 ≤ r13.toInt := i_nlt (a := r13.toInt) (b := 0) rfl rfl c18
          refine ⟨fun c24 => ?_, fun c24 => ?_⟩
          · have f8 : 60 ≤ r13.toInt := i_le (a := 60) (b := r13.toInt) rfl rfl c24
            exact j_38  
          · have f9 : r13.toInt < 60 := i_nle (a := 60) (b := r13.toInt) rfl rfl c24
            refine ⟨i_in (by omega) (by omega), ?_⟩
            intro x32 ex32
            have f10 : (0 ≤ x32.toInt ∧ x32.toInt ≤ 1) := i_bz ex32
            refine ⟨fun c33 => ?_, fun c33 => ?_⟩
            · have f11 : x32.toInt = 0 := i_eq (a := x32.toInt) (b := 0) rfl rfl c33
              exact j_38  
            · have f12 : x32.toInt ≠ 0 := i_ne (a := x32.toInt) (b := 0) rfl rfl c33
              exact hq 1 (by omega)
  exact ⟨(2147483648 : Int).toNat + 1, j_2   ((2147483648 : Int).toNat + 1) 0 (by omega) (by omega) (by omega)⟩
set_option maxHeartbeats 4000000 in
theorem ok_X9_staysTogether {p1 : Int32} {p2 : Int32} {v_count : Int32} {v_width : Int32} {v_goes : Nat → Int32} {v_groups : Nat → Int32} {Q : Int32 → Prop} (a0 : 0 ≤ v_count.toInt) (a1 : v_count.toInt ≤ 60) (a2 : 0 ≤ v_width.toInt) (a3 : v_width.toInt ≤ 256) (hq : ∀ (r : Int32), ((r.toInt = 0) ∨ (r.toInt = 1)) → Q r) : w_X9_staysTogether p1 p2 v_count v_width v_goes v_groups Q := by
  have q_t : (bz true).toInt = 1 := rfl
  have q_f : (bz false).toInt = 0 := rfl
  have q_0 : (0 : Int32).toInt = 0 := rfl
  have q_1 : (1 : Int32).toInt = 1 := rfl
  unfold w_X9_staysTogether
  refine ok_X9_groupOf  (fun r2 f1 => ?_)
  refine ok_X9_groupOf  (fun r7 f2 => ?_)
  refine ⟨fun c10 => ?_, fun c10 => ?_⟩
  · have f3 : r2.toInt = r7.toInt := i_eq (a := r2.toInt) (b := r7.toInt) rfl rfl c10
    have j_17 : ∀ n_17 : Nat, ∀ (l3_17 : Int32), 0 ≤ l3_17.toInt → l3_17.toInt ≤ v_width.toInt → ((-1) * l3_17.toInt + 2147483648).toNat < n_17 → w_X9_staysTogether_17 p1 p2 v_count v_width v_goes v_groups Q n_17 l3_17 := by
      intro n_17
      induction n_17 with
      | zero =>
        intro l3_17 f4 f5 hm_17
        exfalso; omega
      | succ n_17 ih_17 =>
        intro l3_17 f4 f5 hm_17
        unfold w_X9_staysTogether_17
        unfold w_X9_staysTogether_17B
        refine ⟨fun c22 => ?_, fun c22 => ?_⟩
        · have f6 : v_width.toInt ≤ l3_17.toInt := i_le (a := v_width.toInt) (b := l3_17.toInt) rfl rfl c22
          exact hq 1 (by omega)
        · have f7 : l3_17.toInt < v_width.toInt := i_nle (a := v_width.toInt) (b := l3_17.toInt) rfl rfl c22
          refine ok_X9_next (by omega) (by omega) (by omega) (by omega) (fun r29 => ?_)
          refine ok_X9_groupOf  (fun r32 f8 => ?_)
          refine ok_X9_next (by omega) (by omega) (by omega) (by omega) (fun r39 => ?_)
          refine ok_X9_groupOf  (fun r42 f9 => ?_)
          refine ⟨fun c45 => ?_, fun c45 => ?_⟩
          · have f10 : r32.toInt = r42.toInt := i_eq (a := r32.toInt) (b := r42.toInt) rfl rfl c45
            intro x50 ex50
            have f11 : x50.toInt = l3_17.toInt + 1 := i_add (a := l3_17.toInt) (b := 1) ex50 rfl rfl (by omega) (by omega)
            exact ih_17 x50 (by omega) (by omega) (by have h8_0 := i_rng l3_17; have h8_1 := i_rng x50; omega)
          · have f12 : r32.toInt ≠ r42.toInt := i_ne (a := r32.toInt) (b := r42.toInt) rfl rfl c45
            exact hq 0 (by omega)
    exact ⟨(2147483648 : Int).toNat + 1, j_17   ((2147483648 : Int).toNat + 1) 0 (by omega) (by omega) (by omega)⟩
  · have f13 : r2.toInt ≠ r7.toInt := i_ne (a := r2.toInt) (b := r7.toInt) rfl rfl c10
    exact hq 0 (by omega)
set_option maxHeartbeats 4000000 in
theorem ok_X9_stateOf {p1 : Int64} {v_count : Int32} {v_positionCount : Int32} {v_follow : Nat → Int64} {v_states : Nat → Int64} {v_ahead : Nat → Int64} {Q : Int32 → Int32 → (Nat → Int64) → (Nat → Int64) → Prop} (a0 : 0 ≤ v_count.toInt) (a1 : v_count.toInt ≤ 60) (a2 : 0 ≤ v_positionCount.toInt) (a3 : v_positionCount.toInt ≤ 60) (hq : ∀ (r : Int32) (ov_count : Int32) (ov_states : Nat → Int64) (ov_ahead : Nat → Int64), v_count.toInt ≤ ov_count.toInt → 0 ≤ r.toInt + 1 → r.toInt ≤ 59 → 1 ≤ ov_count.toInt → ov_count.toInt ≤ 60 → Q r ov_count ov_states ov_ahead) : w_X9_stateOf p1 v_count v_positionCount v_follow v_states v_ahead Q := by
  have q_t : (bz true).toInt = 1 := rfl
  have q_f : (bz false).toInt = 0 := rfl
  have q_m1 : ((-1) : Int32).toInt = (-1) := rfl
  have q_1 : (1 : Int32).toInt = 1 := rfl
  unfold w_X9_stateOf
  have j_2 : ∀ n_2 : Nat, ∀ (l3_2 : Int32), 1 ≤ l3_2.toInt → l3_2.toInt ≤ 60 → l3_2.toInt ≤ v_count.toInt + 1 → ((-1) * l3_2.toInt + 60).toNat < n_2 → w_X9_stateOf_2 p1 v_positionCount v_follow Q v_count v_states v_ahead n_2 l3_2 := by
    intro n_2
    induction n_2 with
    | zero =>
      intro l3_2 f1 f2 f3 hm_2
      exfalso; omega
    | succ n_2 ih_2 =>
      intro l3_2 f1 f2 f3 hm_2
      unfold w_X9_stateOf_2
      unfold w_X9_stateOf_2B
      have j_35 : v_count.toInt ≤ l3_2.toInt → w_X9_stateOf_35 p1 v_positionCount v_follow Q v_count v_states v_ahead := by
        intro f4
        unfold w_X9_stateOf_35
        refine ⟨fun c41 => ?_, fun c41 => ?_⟩
        · have f5 : v_count.toInt < 60 := i_lt (a := v_count.toInt) (b := 60) rfl rfl c41
          refine ⟨i_in (by omega) (by omega), ?_⟩
          intro g55 eg55
          refine ok_X9_followOf (by omega) (by omega) (fun r66 => ?_)
          refine ⟨i_in (by omega) (by omega), ?_⟩
          intro g69 eg69
          intro x76 ex76
          have f6 : x76.toInt = v_count.toInt + 1 := i_add (a := v_count.toInt) (b := 1) ex76 rfl rfl (by omega) (by omega)
          intro x85 ex85
          have f7 : x85.toInt = x76.toInt - 1 := i_sub (a := x76.toInt) (b := 1) ex85 rfl rfl (by omega) (by omega)
          exact hq x85 x76 g55 g69 (by omega) (by omega) (by omega) (by omega) (by omega)
        · have f8 : 60 ≤ v_count.toInt := i_nlt (a := v_count.toInt) (b := 60) rfl rfl c41
          exact hq (-1) v_count v_states v_ahead (by omega) (by omega) (by omega) (by omega) (by omega)
      refine ⟨fun c7 => ?_, fun c7 => ?_⟩
      · have f9 : v_count.toInt ≤ l3_2.toInt := i_le (a := v_count.toInt) (b := l3_2.toInt) rfl rfl c7
        exact j_35  (by omega)
      · have f10 : l3_2.toInt < v_count.toInt := i_nle (a := v_count.toInt) (b := l3_2.toInt) rfl rfl c7
        refine ⟨fun c13 => ?_, fun c13 => ?_⟩
        · have f11 : 60 ≤ l3_2.toInt := i_le (a := 60) (b := l3_2.toInt) rfl rfl c13
          exfalso; omega
        · have f12 : l3_2.toInt < 60 := i_nle (a := 60) (b := l3_2.toInt) rfl rfl c13
          refine ⟨i_in (by omega) (by omega), ?_⟩
          intro y21 ey21
          intro x23 ex23
          have f13 : (0 ≤ x23.toInt + 1 ∧ x23.toInt ≤ 1) := by have h9 := i_cmp ex23; omega
          refine ⟨fun c24 => ?_, fun c24 => ?_⟩
          · have f14 : x23.toInt ≠ 0 := i_ne (a := x23.toInt) (b := 0) rfl rfl c24
            intro x29 ex29
            have f15 : x29.toInt = l3_2.toInt + 1 := i_add (a := l3_2.toInt) (b := 1) ex29 rfl rfl (by omega) (by omega)
            exact ih_2 x29 (by omega) (by omega) (by omega) (by have h8_0 := i_rng l3_2; have h8_1 := i_rng x29; omega)
          · have f16 : x23.toInt = 0 := i_eq (a := x23.toInt) (b := 0) rfl rfl c24
            exact hq l3_2 v_count v_states v_ahead (by omega) (by omega) (by omega) (by omega) (by omega)
  exact ⟨(59 : Int).toNat + 1, j_2   ((59 : Int).toNat + 1) 1 (by omega) (by omega) (by omega) (by omega)⟩
set_option maxHeartbeats 4000000 in
theorem ok_X9_fillState {p1 : Int32} {v_count : Int32} {v_positionCount : Int32} {v_width : Int32} {v_follow : Nat → Int64} {v_takers : Nat → Int64} {v_states : Nat → Int64} {v_ahead : Nat → Int64} {v_goes : Nat → Int32} {Q : Int32 → Int32 → (Nat → Int64) → (Nat → Int64) → (Nat → Int32) → Prop} (a0 : 0 ≤ v_count.toInt) (a1 : v_count.toInt ≤ 60) (a2 : 0 ≤ v_positionCount.toInt) (a3 : v_positionCount.toInt ≤ 60) (a4 : 0 ≤ v_width.toInt) (a5 : v_width.toInt ≤ 256) (a6 : 0 ≤ p1.toInt) (a7 : p1.toInt ≤ 59) (hq : ∀ (r : Int32) (ov_count : Int32) (ov_states : Nat → Int64) (ov_ahead : Nat → Int64) (ov_goes : Nat → Int32), ov_count.toInt ≤ 60 → v_count.toInt ≤ ov_count.toInt → 0 ≤ r.toInt → r.toInt ≤ 1 → Q r ov_count ov_states ov_ahead ov_goes) : w_X9_fillState p1 v_count v_positionCount v_width v_follow v_takers v_states v_ahead v_goes Q := by
  have q_t : (bz true).toInt = 1 := rfl
  have q_f : (bz false).toInt = 0 := rfl
  have q_0 : (0 : Int32).toInt = 0 := rfl
  have q_1 : (1 : Int32).toInt = 1 := rfl
  unfold w_X9_fillState
  have j_2 : ∀ n_2 : Nat, ∀ (l2_2 : Int32) (v_count_2 : Int32) (v_states_2 : Nat → Int64) (v_ahead_2 : Nat → Int64) (v_goes_2 : Nat → Int32), 0 ≤ l2_2.toInt → l2_2.toInt ≤ v_width.toInt → v_count.toInt ≤ v_count_2.toInt → v_count_2.toInt ≤ 60 → ((-1) * l2_2.toInt + 256).toNat < n_2 → w_X9_fillState_2 p1 v_positionCount v_width v_follow v_takers Q n_2 l2_2 v_count_2 v_states_2 v_ahead_2 v_goes_2 := by
    intro n_2
    induction n_2 with
    | zero =>
      intro l2_2 v_count_2 v_states_2 v_ahead_2 v_goes_2 f1 f2 f3 f4 hm_2
      exfalso; omega
    | succ n_2 ih_2 =>
      intro l2_2 v_count_2 v_states_2 v_ahead_2 v_goes_2 f1 f2 f3 f4 hm_2
      unfold w_X9_fillState_2
      unfold w_X9_fillState_2B
      refine ⟨fun c7 => ?_, fun c7 => ?_⟩
      · have f5 : v_width.toInt ≤ l2_2.toInt := i_le (a := v_width.toInt) (b := l2_2.toInt) rfl rfl c7
        exact hq 1 v_count_2 v_states_2 v_ahead_2 v_goes_2 (by omega) (by omega) (by omega) (by omega)
      · have f6 : l2_2.toInt < v_width.toInt := i_nle (a := v_width.toInt) (b := l2_2.toInt) rfl rfl c7
        refine ⟨i_in (by omega) (by omega), ?_⟩
        intro y16 ey16
        refine ⟨i_in (by omega) (by omega), ?_⟩
        intro y22 ey22
        intro y23 ey23
        refine ok_X9_stateOf (by omega) (by omega) (by omega) (by omega) (fun r24 r24_0 r24_1 r24_2 f7 f8 f9 f10 f11 => ?_)
        refine ⟨fun c30 => ?_, fun c30 => ?_⟩
        · have f12 : r24.toInt ≠ (-1) := i_ne (a := r24.toInt) (b := (-1)) rfl rfl c30
          intro x43 ex43
          have f13 : x43.toInt = p1.toInt * 256 := i_mul (a := p1.toInt) (b := 256) ex43 rfl rfl (by omega) (by omega)
          intro x45 ex45
          have f14 : x45.toInt = x43.toInt + l2_2.toInt := i_add (a := x43.toInt) (b := l2_2.toInt) ex45 rfl rfl (by omega) (by omega)
          refine ⟨i_in (by omega) (by omega), ?_⟩
          intro g47 eg47
          intro x48 ex48
          have f15 : x48.toInt = l2_2.toInt + 1 := i_add (a := l2_2.toInt) (b := 1) ex48 rfl rfl (by omega) (by omega)
          exact ih_2 x48 r24_0 r24_1 r24_2 g47 (by omega) (by omega) (by omega) (by omega) (by have h8_0 := i_rng l2_2; have h8_1 := i_rng x48; omega)
        · have f16 : r24.toInt = (-1) := i_eq (a := r24.toInt) (b := (-1)) rfl rfl c30
          exact hq 0 r24_0 r24_1 r24_2 v_goes_2 (by omega) (by omega) (by omega) (by omega)
  exact ⟨(256 : Int).toNat + 1, j_2   ((256 : Int).toNat + 1) 0 v_count v_states v_ahead v_goes (by omega) (by omega) (by omega) (by omega) (by omega)⟩
set_option maxHeartbeats 4000000 in
theorem ok_X9_numberPositions {v_program_count : Int32} {v_program_kinds : Nat → Int32} {v_positionOf : Nat → Int32} {v_pcOf : Nat → Int32} {Q : Int32 → (Nat → Int32) → (Nat → Int32) → Prop} (a0 : 0 ≤ v_program_count.toInt) (a1 : v_program_count.toInt ≤ 512) (hq : ∀ (ov_positionCount : Int32) (ov_positionOf : Nat → Int32) (ov_pcOf : Nat → Int32), 0 ≤ ov_positionCount.toInt + 1 → 0 ≤ ov_positionCount.toInt → ov_positionCount.toInt ≤ 60 → ov_positionCount.toInt ≤ 61 → ov_positionCount.toInt ≤ v_program_count.toInt → ov_positionCount.toInt ≤ v_program_count.toInt + 1 → Q ov_positionCount ov_positionOf ov_pcOf) : w_X9_numberPositions v_program_count v_program_kinds v_positionOf v_pcOf Q := by
  have q_t : (bz true).toInt = 1 := rfl
  have q_f : (bz false).toInt = 0 := rfl
  have q_0 : (0 : Int32).toInt = 0 := rfl
  unfold w_X9_numberPositions
  have j_7 : ∀ n_7 : Nat, ∀ (l1_7 : Int32) (v_positionCount_7 : Int32) (v_positionOf_7 : Nat → Int32) (v_pcOf_7 : Nat → Int32), l1_7.toInt ≤ v_program_count.toInt → v_positionCount_7.toInt ≤ l1_7.toInt → 0 ≤ v_positionCount_7.toInt → v_positionCount_7.toInt ≤ 60 → ((-1) * l1_7.toInt + 2147483648).toNat < n_7 → w_X9_numberPositions_7 v_program_count v_program_kinds Q n_7 l1_7 v_positionCount_7 v_positionOf_7 v_pcOf_7 := by
    intro n_7
    induction n_7 with
    | zero =>
      intro l1_7 v_positionCount_7 v_positionOf_7 v_pcOf_7 f1 f2 f3 f4 hm_7
      exfalso; omega
    | succ n_7 ih_7 =>
      intro l1_7 v_positionCount_7 v_positionOf_7 v_pcOf_7 f1 f2 f3 f4 hm_7
      unfold w_X9_numberPositions_7
      unfold w_X9_numberPositions_7B
      refine ok_X5_has (by omega) (by omega) (fun r12 f5 => ?_)
      refine ⟨fun c15 => ?_, fun c15 => ?_⟩
      · have f6 : r12.toInt = 0 := i_eq (a := r12.toInt) (b := 0) rfl rfl c15
        exact hq v_positionCount_7 v_positionOf_7 v_pcOf_7 (by omega) (by omega) (by omega) (by omega) (by omega) (by omega)
      · have f7 : r12.toInt ≠ 0 := i_ne (a := r12.toInt) (b := 0) rfl rfl c15
        refine ok_X5_kindOf (by omega) (by omega) (fun r23 f8 => ?_)
        have j_68 : ∀ (v_positionCount_68 : Int32) (v_positionOf_68 : Nat → Int32) (v_pcOf_68 : Nat → Int32), 0 ≤ v_positionCount_68.toInt → v_positionCount_68.toInt ≤ 60 → v_positionCount_7.toInt ≤ v_positionCount_68.toInt → v_positionCount_68.toInt ≤ v_positionCount_7.toInt + 1 → ((v_positionCount_68.toInt = v_positionCount_7.toInt) ∨ (v_positionCount_68.toInt = v_positionCount_7.toInt ∧ r23.toInt = 0 ∧ 60 ≤ v_positionCount_7.toInt) ∨ (r23.toInt = 0 ∧ v_positionCount_7.toInt ≤ 59 ∧ v_positionCount_68.toInt = v_positionCount_7.toInt + 1)) → w_X9_numberPositions_68 Q (w_X9_numberPositions_7 v_program_count v_program_kinds Q n_7) l1_7 v_positionCount_68 v_positionOf_68 v_pcOf_68 := by
          intro v_positionCount_68 v_positionOf_68 v_pcOf_68 f9 f10 f11 f12 f13
          unfold w_X9_numberPositions_68
          intro x68 ex68
          have f14 : x68.toInt = l1_7.toInt + 1 := i_add (a := l1_7.toInt) (b := 1) ex68 rfl rfl (by omega) (by omega)
          exact ih_7 x68 v_positionCount_68 v_positionOf_68 v_pcOf_68 (by omega) (by omega) (by omega) (by omega) (by have h8_0 := i_rng l1_7; have h8_1 := i_rng x68; omega)
        refine ⟨fun c26 => ?_, fun c26 => ?_⟩
        · have f15 : r23.toInt ≠ 0 := i_ne (a := r23.toInt) (b := 0) rfl rfl c26
          exact j_68 v_positionCount_7 v_positionOf_7 v_pcOf_7 (by omega) (by omega) (by omega) (by omega) (by omega)
        · have f16 : r23.toInt = 0 := i_eq (a := r23.toInt) (b := 0) rfl rfl c26
          refine ⟨fun c35 => ?_, fun c35 => ?_⟩
          · have f17 : 60 ≤ v_positionCount_7.toInt := i_le (a := 60) (b := v_positionCount_7.toInt) rfl rfl c35
            exact j_68 v_positionCount_7 v_positionOf_7 v_pcOf_7 (by omega) (by omega) (by omega) (by omega) (by omega)
          · have f18 : v_positionCount_7.toInt < 60 := i_nle (a := 60) (b := v_positionCount_7.toInt) rfl rfl c35
            refine ⟨i_in (by omega) (by omega), ?_⟩
            intro g47 eg47
            refine ⟨i_in (by omega) (by omega), ?_⟩
            intro g57 eg57
            intro x64 ex64
            have f19 : x64.toInt = v_positionCount_7.toInt + 1 := i_add (a := v_positionCount_7.toInt) (b := 1) ex64 rfl rfl (by omega) (by omega)
            exact j_68 x64 g47 g57 (by omega) (by omega) (by omega) (by omega) (by omega)
  exact ⟨(2147483648 : Int).toNat + 1, j_7   ((2147483648 : Int).toNat + 1) 0 0 v_positionOf v_pcOf (by omega) (by omega) (by omega) (by omega) (by omega)⟩
set_option maxHeartbeats 4000000 in
theorem ok_X9_push {p1 : Int32} {v_stamp : Int32} {v_stackCount : Int32} {v_seen : Nat → Int32} {v_stack : Nat → Int32} {Q : Int32 → (Nat → Int32) → (Nat → Int32) → Prop} (hq : ∀ (ov_stackCount : Int32) (ov_seen : Nat → Int32) (ov_stack : Nat → Int32), v_stackCount.toInt ≤ ov_stackCount.toInt → Q ov_stackCount ov_seen ov_stack) : w_X9_push p1 v_stamp v_stackCount v_seen v_stack Q := by
  have q_t : (bz true).toInt = 1 := rfl
  have q_f : (bz false).toInt = 0 := rfl
  unfold w_X9_push
  have j_73 : ∀ (v_stackCount_73 : Int32) (v_seen_73 : Nat → Int32) (v_stack_73 : Nat → Int32), v_stackCount.toInt ≤ v_stackCount_73.toInt → w_X9_push_73 Q v_stackCount_73 v_seen_73 v_stack_73 := by
    intro v_stackCount_73 v_seen_73 v_stack_73 f1
    unfold w_X9_push_73
    exact hq v_stackCount_73 v_seen_73 v_stack_73 (by omega)
  refine ⟨fun c1 => ?_, fun c1 => ?_⟩
  · have f2 : p1.toInt < 0 := i_lt (a := p1.toInt) (b := 0) rfl rfl c1
    exact j_73 v_stackCount v_seen v_stack (by omega)
  · have f3 : 0 ≤ p1.toInt := i_nlt (a := p1.toInt) (b := 0) rfl rfl c1
    refine ⟨fun c8 => ?_, fun c8 => ?_⟩
    · have f4 : 512 ≤ p1.toInt := i_le (a := 512) (b := p1.toInt) rfl rfl c8
      exact j_73 v_stackCount v_seen v_stack (by omega)
    · have f5 : p1.toInt < 512 := i_nle (a := 512) (b := p1.toInt) rfl rfl c8
      refine ⟨i_in (by omega) (by omega), ?_⟩
      intro x16 ex16
      refine ⟨fun c21 => ?_, fun c21 => ?_⟩
      · have f6 : x16.toInt = v_stamp.toInt := i_eq (a := x16.toInt) (b := v_stamp.toInt) rfl rfl c21
        exact j_73 v_stackCount v_seen v_stack (by omega)
      · have f7 : x16.toInt ≠ v_stamp.toInt := i_ne (a := x16.toInt) (b := v_stamp.toInt) rfl rfl c21
        refine ⟨fun c28 => ?_, fun c28 => ?_⟩
        · have f8 : v_stackCount.toInt < 0 := i_lt (a := v_stackCount.toInt) (b := 0) rfl rfl c28
          exact j_73 v_stackCount v_seen v_stack (by omega)
        · have f9 : 0 ≤ v_stackCount.toInt := i_nlt (a := v_stackCount.toInt) (b := 0) rfl rfl c28
          refine ⟨fun c40 => ?_, fun c40 => ?_⟩
          · have f10 : 512 ≤ v_stackCount.toInt := i_le (a := 512) (b := v_stackCount.toInt) rfl rfl c40
            exact j_73 v_stackCount v_seen v_stack (by omega)
          · have f11 : v_stackCount.toInt < 512 := i_nle (a := 512) (b := v_stackCount.toInt) rfl rfl c40
            refine ⟨i_in (by omega) (by omega), ?_⟩
            intro g52 eg52
            refine ⟨i_in (by omega) (by omega), ?_⟩
            intro g62 eg62
            intro x69 ex69
            have f12 : x69.toInt = v_stackCount.toInt + 1 := i_add (a := v_stackCount.toInt) (b := 1) ex69 rfl rfl (by omega) (by omega)
            exact j_73 x69 g52 g62 (by omega)
set_option maxHeartbeats 4000000 in
theorem ok_X9_markLive {v_count : Int32} {v_width : Int32} {v_ahead : Nat → Int64} {v_goes : Nat → Int32} {v_live : Nat → Bool} {Q : (Nat → Bool) → Prop} (a0 : 0 ≤ v_count.toInt) (a1 : v_count.toInt ≤ 60) (a2 : 0 ≤ v_width.toInt) (a3 : v_width.toInt ≤ 256) (hq : ∀ (ov_live : Nat → Bool), Q ov_live) : w_X9_markLive v_count v_width v_ahead v_goes v_live Q := by
  have q_t : (bz true).toInt = 1 := rfl
  have q_f : (bz false).toInt = 0 := rfl
  have q_0 : (0 : Int32).toInt = 0 := rfl
  have q_1 : (1 : Int32).toInt = 1 := rfl
  unfold w_X9_markLive
  have j_2 : ∀ n_2 : Nat, ∀ (l1_2 : Int32) (v_live_2 : Nat → Bool), 0 ≤ l1_2.toInt → l1_2.toInt ≤ v_count.toInt → ((-1) * l1_2.toInt + 2147483648).toNat < n_2 → w_X9_markLive_2 v_count v_width v_ahead v_goes Q n_2 l1_2 v_live_2 := by
    intro n_2
    induction n_2 with
    | zero =>
      intro l1_2 v_live_2 f1 f2 hm_2
      exfalso; omega
    | succ n_2 ih_2 =>
      intro l1_2 v_live_2 f1 f2 hm_2
      unfold w_X9_markLive_2
      unfold w_X9_markLive_2B
      refine ⟨fun c7 => ?_, fun c7 => ?_⟩
      · have f3 : v_count.toInt ≤ l1_2.toInt := i_le (a := v_count.toInt) (b := l1_2.toInt) rfl rfl c7
        have j_31 : ∀ n_31 : Nat, ∀ (l1_31 : Int32) (l2_31 : Int32) (v_live_31 : Nat → Bool), 0 ≤ l1_31.toInt → l1_31.toInt ≤ 1 → 0 ≤ l2_31.toInt → l2_31.toInt ≤ v_count.toInt → ((-1) * l2_31.toInt + 2147483648).toNat < n_31 → w_X9_markLive_31 v_count v_width v_goes Q n_31 l1_31 l2_31 v_live_31 := by
          intro n_31
          induction n_31 with
          | zero =>
            intro l1_31 l2_31 v_live_31 f4 f5 f6 f7 hm_31
            exfalso; omega
          | succ n_31 ih_31 =>
            intro l1_31 l2_31 v_live_31 f4 f5 f6 f7 hm_31
            unfold w_X9_markLive_31
            unfold w_X9_markLive_31B
            have j_93 : ((l1_31.toInt = 0) ∨ (v_count.toInt ≤ l2_31.toInt)) → w_X9_markLive_93 Q v_live_31 := by
              intro f8
              unfold w_X9_markLive_93
              exact hq v_live_31 
            refine ⟨fun c32 => ?_, fun c32 => ?_⟩
            · have f9 : l1_31.toInt = 0 := i_eq (a := l1_31.toInt) (b := 0) rfl rfl c32
              exact j_93  (by omega)
            · have f10 : l1_31.toInt ≠ 0 := i_ne (a := l1_31.toInt) (b := 0) rfl rfl c32
              refine ⟨fun c40 => ?_, fun c40 => ?_⟩
              · have f11 : v_count.toInt ≤ l2_31.toInt := i_le (a := v_count.toInt) (b := l2_31.toInt) rfl rfl c40
                exact j_93  (by omega)
              · have f12 : l2_31.toInt < v_count.toInt := i_nle (a := v_count.toInt) (b := l2_31.toInt) rfl rfl c40
                have j_47 : ∀ n_47 : Nat, ∀ (l1_47 : Int32) (l3_47 : Int32) (v_live_47 : Nat → Bool), 0 ≤ l1_47.toInt → l1_47.toInt ≤ 1 → l1_47.toInt ≤ l3_47.toInt → l3_47.toInt ≤ v_count.toInt → ((-1) * l3_47.toInt + 2147483648).toNat < n_47 → w_X9_markLive_47 v_count v_width v_goes Q (w_X9_markLive_31 v_count v_width v_goes Q n_31) l2_31 n_47 l1_47 l3_47 v_live_47 := by
                  intro n_47
                  induction n_47 with
                  | zero =>
                    intro l1_47 l3_47 v_live_47 f13 f14 f15 f16 hm_47
                    exfalso; omega
                  | succ n_47 ih_47 =>
                    intro l1_47 l3_47 v_live_47 f13 f14 f15 f16 hm_47
                    unfold w_X9_markLive_47
                    unfold w_X9_markLive_47B
                    refine ⟨fun c52 => ?_, fun c52 => ?_⟩
                    · have f17 : v_count.toInt ≤ l3_47.toInt := i_le (a := v_count.toInt) (b := l3_47.toInt) rfl rfl c52
                      intro x87 ex87
                      have f18 : x87.toInt = l2_31.toInt + 1 := i_add (a := l2_31.toInt) (b := 1) ex87 rfl rfl (by omega) (by omega)
                      exact ih_31 l1_47 x87 v_live_47 (by omega) (by omega) (by omega) (by omega) (by have h8_0 := i_rng l2_31; have h8_1 := i_rng x87; omega)
                    · have f19 : l3_47.toInt < v_count.toInt := i_nle (a := v_count.toInt) (b := l3_47.toInt) rfl rfl c52
                      refine ⟨i_in (by omega) (by omega), ?_⟩
                      intro x60 ex60
                      have f20 : (0 ≤ x60.toInt ∧ x60.toInt ≤ 1) := i_bz ex60
                      have j_81 : ∀ (l1_81 : Int32) (v_live_81 : Nat → Bool), l1_47.toInt ≤ l1_81.toInt → l1_81.toInt ≤ l1_47.toInt + 1 → ((l1_81.toInt = l1_47.toInt) ∨ (l1_81.toInt = l1_47.toInt ∧ x60.toInt = 0) ∨ (l1_81.toInt = 1 ∧ x60.toInt = 0)) → w_X9_markLive_81 Q (w_X9_markLive_31 v_count v_width v_goes Q n_31) (w_X9_markLive_47 v_count v_width v_goes Q (w_X9_markLive_31 v_count v_width v_goes Q n_31) l2_31 n_47) l1_81 l3_47 v_live_81 := by
                        intro l1_81 v_live_81 f21 f22 f23
                        unfold w_X9_markLive_81
                        intro x81 ex81
                        have f24 : x81.toInt = l3_47.toInt + 1 := i_add (a := l3_47.toInt) (b := 1) ex81 rfl rfl (by omega) (by omega)
                        exact ih_47 l1_81 x81 v_live_81 (by omega) (by omega) (by omega) (by omega) (by have h8_0 := i_rng l3_47; have h8_1 := i_rng x81; omega)
                      refine ⟨fun c61 => ?_, fun c61 => ?_⟩
                      · have f25 : x60.toInt ≠ 0 := i_ne (a := x60.toInt) (b := 0) rfl rfl c61
                        exact j_81 l1_47 v_live_47 (by omega) (by omega) (by omega)
                      · have f26 : x60.toInt = 0 := i_eq (a := x60.toInt) (b := 0) rfl rfl c61
                        refine ok_X9_leadsToLive (by omega) (by omega) (by omega) (by omega) (fun r66 f27 => ?_)
                        refine ⟨fun c69 => ?_, fun c69 => ?_⟩
                        · have f28 : r66.toInt = 0 := i_eq (a := r66.toInt) (b := 0) rfl rfl c69
                          exact j_81 l1_47 v_live_47 (by omega) (by omega) (by omega)
                        · have f29 : r66.toInt ≠ 0 := i_ne (a := r66.toInt) (b := 0) rfl rfl c69
                          refine ⟨i_in (by omega) (by omega), ?_⟩
                          intro g78 eg78
                          exact j_81 1 g78 (by omega) (by omega) (by omega)
                exact ⟨(2147483648 : Int).toNat + 1, j_47   ((2147483648 : Int).toNat + 1) 0 0 v_live_31 (by omega) (by omega) (by omega) (by omega) (by omega)⟩
        exact ⟨(2147483648 : Int).toNat + 1, j_31   ((2147483648 : Int).toNat + 1) 1 0 v_live_2 (by omega) (by omega) (by omega) (by omega) (by omega)⟩
      · have f30 : l1_2.toInt < v_count.toInt := i_nle (a := v_count.toInt) (b := l1_2.toInt) rfl rfl c7
        refine ok_X9_ends (by omega) (by omega) (fun r17 f31 => ?_)
        refine ⟨i_in (by omega) (by omega), ?_⟩
        intro g20 eg20
        intro x21 ex21
        have f32 : x21.toInt = l1_2.toInt + 1 := i_add (a := l1_2.toInt) (b := 1) ex21 rfl rfl (by omega) (by omega)
        exact ih_2 x21 g20 (by omega) (by omega) (by have h8_0 := i_rng l1_2; have h8_1 := i_rng x21; omega)
  exact ⟨(2147483648 : Int).toNat + 1, j_2   ((2147483648 : Int).toNat + 1) 0 v_live (by omega) (by omega) (by omega)⟩
set_option maxHeartbeats 4000000 in
theorem ok_X9_longestBeginning {p3 : Int32} {a2_count : Int32} {a2_items : Nat → Int32} {na2_items : Nat} {a1_count : Int32} {a1_begins : Nat → Int32} {v_count : Int32} {v_width : Int32} {v_ahead : Nat → Int64} {v_goes : Nat → Int32} {v_live : Nat → Bool} {Q : Int32 → (Nat → Bool) → Prop} (a0 : 0 ≤ a2_count.toInt) (a1 : a2_count.toInt ≤ (na2_items : Int)) (a2 : (na2_items : Int) ≤ 1000) (a3 : 0 ≤ a1_count.toInt) (a4 : a1_count.toInt ≤ 256) (a5 : 0 ≤ v_count.toInt) (a6 : v_count.toInt ≤ 60) (a7 : 0 ≤ v_width.toInt) (a8 : v_width.toInt ≤ 256) (hq : ∀ (r : Int32) (ov_live : Nat → Bool), Q r ov_live) : w_X9_longestBeginning p3 a2_count a2_items na2_items a1_count a1_begins v_count v_width v_ahead v_goes v_live Q := by
  have q_t : (bz true).toInt = 1 := rfl
  have q_f : (bz false).toInt = 0 := rfl
  have q_m1 : ((-1) : Int32).toInt = (-1) := rfl
  have q_0 : (0 : Int32).toInt = 0 := rfl
  unfold w_X9_longestBeginning
  refine ok_X9_markLive (by omega) (by omega) (by omega) (by omega) (fun r1_0 => ?_)
  intro x9 ex9
  have f1 : (0 ≤ x9.toInt ∧ x9.toInt ≤ 1) := i_bz ex9
  refine ⟨fun c10 => ?_, fun c10 => ?_⟩
  · have f2 : x9.toInt ≠ 0 := i_ne (a := x9.toInt) (b := 0) rfl rfl c10
    have j_24 : ∀ n_24 : Nat, ∀ (l4_24 : Int32) (l5_24 : Int32) (l6_24 : Int32), 0 ≤ l4_24.toInt → l4_24.toInt ≤ 59 → p3.toInt ≤ l6_24.toInt → ((-1) * l6_24.toInt + 2147483648).toNat < n_24 → w_X9_longestBeginning_24 a2_count a2_items na2_items a1_count a1_begins v_count v_width v_goes Q r1_0 n_24 l4_24 l5_24 l6_24 := by
      intro n_24
      induction n_24 with
      | zero =>
        intro l4_24 l5_24 l6_24 f3 f4 f5 hm_24
        exfalso; omega
      | succ n_24 ih_24 =>
        intro l4_24 l5_24 l6_24 f3 f4 f5 hm_24
        unfold w_X9_longestBeginning_24
        unfold w_X9_longestBeginning_24B
        have j_85 : ((a2_count.toInt ≤ l6_24.toInt) ∨ (l6_24.toInt + 1 ≤ a2_count.toInt)) → w_X9_longestBeginning_85 Q l5_24 r1_0 := by
          intro f6
          unfold w_X9_longestBeginning_85
          exact hq l5_24 r1_0 
        refine ⟨fun c30 => ?_, fun c30 => ?_⟩
        · have f7 : a2_count.toInt ≤ l6_24.toInt := i_le (a := a2_count.toInt) (b := l6_24.toInt) rfl rfl c30
          exact j_85  (by omega)
        · have f8 : l6_24.toInt < a2_count.toInt := i_nle (a := a2_count.toInt) (b := l6_24.toInt) rfl rfl c30
          refine ok_X7_at (by omega) (by omega) (by omega) (fun r40 f9 => ?_)
          refine ok_X0_classOf (by omega) (by omega) (fun r43 f10 f11 f12 f13 f14 f15 => ?_)
          refine ok_X9_next (by omega) (by omega) (by omega) (by omega) (fun r46 => ?_)
          refine ⟨fun c53 => ?_, fun c53 => ?_⟩
          · have f16 : r46.toInt < 0 := i_lt (a := r46.toInt) (b := 0) rfl rfl c53
            exact j_85  (by omega)
          · have f17 : 0 ≤ r46.toInt := i_nlt (a := r46.toInt) (b := 0) rfl rfl c53
            refine ⟨fun c60 => ?_, fun c60 => ?_⟩
            · have f18 : 60 ≤ r46.toInt := i_le (a := 60) (b := r46.toInt) rfl rfl c60
              exact j_85  (by omega)
            · have f19 : r46.toInt < 60 := i_nle (a := 60) (b := r46.toInt) rfl rfl c60
              refine ⟨i_in (by omega) (by omega), ?_⟩
              intro x69 ex69
              have f20 : (0 ≤ x69.toInt ∧ x69.toInt ≤ 1) := i_bz ex69
              refine ⟨fun c70 => ?_, fun c70 => ?_⟩
              · have f21 : x69.toInt ≠ 0 := i_ne (a := x69.toInt) (b := 0) rfl rfl c70
                intro x76 ex76
                intro x79 ex79
                have f22 : x79.toInt = l6_24.toInt + 1 := i_add (a := l6_24.toInt) (b := 1) ex79 rfl rfl (by have h8_1 := i_rng a2_count; have h8_2 := i_rng l6_24; have h8_3 := i_rng p3; have h8_4 := i_rng r40; omega) (by omega)
                exact ih_24 r46 x76 x79 (by omega) (by omega) (by omega) (by have h8_0 := i_rng l6_24; have h8_1 := i_rng x79; omega)
              · have f23 : x69.toInt = 0 := i_eq (a := x69.toInt) (b := 0) rfl rfl c70
                exact j_85  (by omega)
    exact ⟨((-1) * p3.toInt + 2147483648).toNat + 1, j_24   (((-1) * p3.toInt + 2147483648).toNat + 1) 0 0 p3 (by omega) (by omega) (by omega) (by omega)⟩
  · have f24 : x9.toInt = 0 := i_eq (a := x9.toInt) (b := 0) rfl rfl c10
    exact hq (-1) r1_0 
set_option maxHeartbeats 4000000 in
theorem ok_X9_refine {v_count : Int32} {v_width : Int32} {v_goes : Nat → Int32} {v_groups : Nat → Int32} {v_finer : Nat → Int32} {Q : Int32 → (Nat → Int32) → Prop} (a0 : 0 ≤ v_count.toInt) (a1 : v_count.toInt ≤ 60) (a2 : 0 ≤ v_width.toInt) (a3 : v_width.toInt ≤ 256) (hq : ∀ (r : Int32) (ov_finer : Nat → Int32), 0 ≤ r.toInt + 1 → 0 ≤ r.toInt → r.toInt ≤ v_count.toInt → r.toInt ≤ v_count.toInt + 1 → Q r ov_finer) : w_X9_refine v_count v_width v_goes v_groups v_finer Q := by
  have q_t : (bz true).toInt = 1 := rfl
  have q_f : (bz false).toInt = 0 := rfl
  have q_0 : (0 : Int32).toInt = 0 := rfl
  have q_1 : (1 : Int32).toInt = 1 := rfl
  unfold w_X9_refine
  have j_4 : ∀ n_4 : Nat, ∀ (l1_4 : Int32) (l2_4 : Int32) (v_finer_4 : Nat → Int32), 0 ≤ l1_4.toInt → l1_4.toInt ≤ l2_4.toInt → l2_4.toInt ≤ v_count.toInt → ((-1) * l2_4.toInt + 2147483648).toNat < n_4 → w_X9_refine_4 v_count v_width v_goes v_groups Q n_4 l1_4 l2_4 v_finer_4 := by
    intro n_4
    induction n_4 with
    | zero =>
      intro l1_4 l2_4 v_finer_4 f1 f2 f3 hm_4
      exfalso; omega
    | succ n_4 ih_4 =>
      intro l1_4 l2_4 v_finer_4 f1 f2 f3 hm_4
      unfold w_X9_refine_4
      unfold w_X9_refine_4B
      refine ⟨fun c9 => ?_, fun c9 => ?_⟩
      · have f4 : v_count.toInt ≤ l2_4.toInt := i_le (a := v_count.toInt) (b := l2_4.toInt) rfl rfl c9
        exact hq l1_4 v_finer_4 (by omega) (by omega) (by omega) (by omega)
      · have f5 : l2_4.toInt < v_count.toInt := i_nle (a := v_count.toInt) (b := l2_4.toInt) rfl rfl c9
        have j_14 : ∀ n_14 : Nat, ∀ (l3_14 : Int32), 0 ≤ l3_14.toInt → l3_14.toInt ≤ l2_4.toInt → ((-1) * l3_14.toInt + 2147483648).toNat < n_14 → w_X9_refine_14 v_count v_width v_goes v_groups Q (w_X9_refine_4 v_count v_width v_goes v_groups Q n_4) l1_4 l2_4 v_finer_4 n_14 l3_14 := by
          intro n_14
          induction n_14 with
          | zero =>
            intro l3_14 f6 f7 hm_14
            exfalso; omega
          | succ n_14 ih_14 =>
            intro l3_14 f6 f7 hm_14
            unfold w_X9_refine_14
            unfold w_X9_refine_14B
            have j_34 : ((l2_4.toInt ≤ l3_14.toInt) ∨ (l3_14.toInt + 1 ≤ l2_4.toInt)) → w_X9_refine_34 Q (w_X9_refine_4 v_count v_width v_goes v_groups Q n_4) l1_4 l2_4 l3_14 v_finer_4 := by
              intro f8
              unfold w_X9_refine_34
              have j_54 : ∀ (s0_54 : Int32), ((s0_54.toInt = l1_4.toInt ∧ l2_4.toInt ≤ l3_14.toInt) ∨ (l3_14.toInt + 1 ≤ l2_4.toInt)) → w_X9_refine_54 Q (w_X9_refine_4 v_count v_width v_goes v_groups Q n_4) s0_54 l2_4 l1_4 l2_4 l3_14 v_finer_4 := by
                intro s0_54 f9
                unfold w_X9_refine_54
                refine ⟨i_in (by omega) (by omega), ?_⟩
                intro g54 eg54
                have j_66 : ∀ (s0_66 : Int32), ((s0_66.toInt = 1 ∧ l2_4.toInt ≤ l3_14.toInt) ∨ (s0_66.toInt = 0 ∧ l3_14.toInt + 1 ≤ l2_4.toInt)) → w_X9_refine_66 Q (w_X9_refine_4 v_count v_width v_goes v_groups Q n_4) s0_66 l1_4 l2_4 g54 := by
                  intro s0_66 f10
                  unfold w_X9_refine_66
                  intro x66 ex66
                  have f11 : x66.toInt = l1_4.toInt + s0_66.toInt := i_add (a := l1_4.toInt) (b := s0_66.toInt) ex66 rfl rfl (by omega) (by omega)
                  intro x68 ex68
                  have f12 : x68.toInt = l2_4.toInt + 1 := i_add (a := l2_4.toInt) (b := 1) ex68 rfl rfl (by omega) (by omega)
                  exact ih_4 x66 x68 g54 (by omega) (by omega) (by omega) (by have h8_0 := i_rng l2_4; have h8_1 := i_rng x68; omega)
                refine ⟨fun c58 => ?_, fun c58 => ?_⟩
                · have f13 : l2_4.toInt ≤ l3_14.toInt := i_le (a := l2_4.toInt) (b := l3_14.toInt) rfl rfl c58
                  exact j_66 1 (by omega)
                · have f14 : l3_14.toInt < l2_4.toInt := i_nle (a := l2_4.toInt) (b := l3_14.toInt) rfl rfl c58
                  exact j_66 0 (by omega)
              refine ⟨fun c41 => ?_, fun c41 => ?_⟩
              · have f15 : l2_4.toInt ≤ l3_14.toInt := i_le (a := l2_4.toInt) (b := l3_14.toInt) rfl rfl c41
                exact j_54 l1_4 (by omega)
              · have f16 : l3_14.toInt < l2_4.toInt := i_nle (a := l2_4.toInt) (b := l3_14.toInt) rfl rfl c41
                refine ⟨i_in (by omega) (by omega), ?_⟩
                intro x49 ex49
                exact j_54 x49 (by omega)
            refine ⟨fun c16 => ?_, fun c16 => ?_⟩
            · have f17 : l2_4.toInt ≤ l3_14.toInt := i_le (a := l2_4.toInt) (b := l3_14.toInt) rfl rfl c16
              exact j_34  (by omega)
            · have f18 : l3_14.toInt < l2_4.toInt := i_nle (a := l2_4.toInt) (b := l3_14.toInt) rfl rfl c16
              refine ok_X9_staysTogether (by omega) (by omega) (by omega) (by omega) (fun r22 f19 => ?_)
              refine ⟨fun c25 => ?_, fun c25 => ?_⟩
              · have f20 : r22.toInt ≠ 0 := i_ne (a := r22.toInt) (b := 0) rfl rfl c25
                exact j_34  (by omega)
              · have f21 : r22.toInt = 0 := i_eq (a := r22.toInt) (b := 0) rfl rfl c25
                intro x28 ex28
                have f22 : x28.toInt = l3_14.toInt + 1 := i_add (a := l3_14.toInt) (b := 1) ex28 rfl rfl (by omega) (by omega)
                exact ih_14 x28 (by omega) (by omega) (by have h8_0 := i_rng l3_14; have h8_1 := i_rng x28; omega)
        exact ⟨(2147483648 : Int).toNat + 1, j_14   ((2147483648 : Int).toNat + 1) 0 (by omega) (by omega) (by omega)⟩
  exact ⟨(2147483648 : Int).toNat + 1, j_4   ((2147483648 : Int).toNat + 1) 0 0 v_finer (by omega) (by omega) (by omega) (by omega)⟩
set_option maxHeartbeats 4000000 in
theorem ok_X9_fewestStates {v_count : Int32} {v_width : Int32} {v_ahead : Nat → Int64} {v_goes : Nat → Int32} {v_groups : Nat → Int32} {v_finer : Nat → Int32} {Q : Int32 → (Nat → Int32) → (Nat → Int32) → Prop} (a0 : 0 ≤ v_count.toInt) (a1 : v_count.toInt ≤ 60) (a2 : 0 ≤ v_width.toInt) (a3 : v_width.toInt ≤ 256) (hq : ∀ (r : Int32) (ov_groups : Nat → Int32) (ov_finer : Nat → Int32), 0 ≤ r.toInt + 1 → 0 ≤ r.toInt → r.toInt ≤ 60 → r.toInt ≤ 61 → r.toInt ≤ v_count.toInt → r.toInt ≤ v_count.toInt + 1 → Q r ov_groups ov_finer) : w_X9_fewestStates v_count v_width v_ahead v_goes v_groups v_finer Q := by
  have q_t : (bz true).toInt = 1 := rfl
  have q_f : (bz false).toInt = 0 := rfl
  have q_0 : (0 : Int32).toInt = 0 := rfl
  have q_1 : (1 : Int32).toInt = 1 := rfl
  unfold w_X9_fewestStates
  have j_4 : ∀ n_4 : Nat, ∀ (l2_4 : Int32) (v_groups_4 : Nat → Int32), 0 ≤ l2_4.toInt → l2_4.toInt ≤ v_count.toInt → ((-1) * l2_4.toInt + 2147483648).toNat < n_4 → w_X9_fewestStates_4 v_count v_width v_ahead v_goes Q 0 v_finer n_4 l2_4 v_groups_4 := by
    intro n_4
    induction n_4 with
    | zero =>
      intro l2_4 v_groups_4 f1 f2 hm_4
      exfalso; omega
    | succ n_4 ih_4 =>
      intro l2_4 v_groups_4 f1 f2 hm_4
      unfold w_X9_fewestStates_4
      unfold w_X9_fewestStates_4B
      refine ⟨fun c9 => ?_, fun c9 => ?_⟩
      · have f3 : v_count.toInt ≤ l2_4.toInt := i_le (a := v_count.toInt) (b := l2_4.toInt) rfl rfl c9
        have j_39 : ∀ n_39 : Nat, ∀ (l1_39 : Int32) (l2_39 : Int32) (v_groups_39 : Nat → Int32) (v_finer_39 : Nat → Int32), 0 ≤ l1_39.toInt → l1_39.toInt ≤ v_count.toInt → 0 ≤ l2_39.toInt → l2_39.toInt ≤ v_count.toInt + 1 → ((-1) * l2_39.toInt + 61).toNat < n_39 → w_X9_fewestStates_39 v_count v_width v_goes Q n_39 l1_39 l2_39 v_groups_39 v_finer_39 := by
          intro n_39
          induction n_39 with
          | zero =>
            intro l1_39 l2_39 v_groups_39 v_finer_39 f4 f5 f6 f7 hm_39
            exfalso; omega
          | succ n_39 ih_39 =>
            intro l1_39 l2_39 v_groups_39 v_finer_39 f4 f5 f6 f7 hm_39
            unfold w_X9_fewestStates_39
            unfold w_X9_fewestStates_39B
            have j_83 : ∀ (v_groups_83 : Nat → Int32) (v_finer_83 : Nat → Int32), ((v_count.toInt + 1 ≤ l2_39.toInt) ∨ (l2_39.toInt ≤ v_count.toInt ∧ 0 ≤ l1_39.toInt + 1 ∧ 0 ≤ l1_39.toInt ∧ l1_39.toInt ≤ v_count.toInt ∧ l1_39.toInt ≤ v_count.toInt + 1)) → w_X9_fewestStates_83 Q l1_39 v_groups_83 v_finer_83 := by
              intro v_groups_83 v_finer_83 f8
              unfold w_X9_fewestStates_83
              exact hq l1_39 v_groups_83 v_finer_83 (by omega) (by omega) (by omega) (by omega) (by omega) (by omega)
            refine ⟨fun c44 => ?_, fun c44 => ?_⟩
            · have f9 : v_count.toInt < l2_39.toInt := i_lt (a := v_count.toInt) (b := l2_39.toInt) rfl rfl c44
              exact j_83 v_groups_39 v_finer_39 (by omega)
            · have f10 : l2_39.toInt ≤ v_count.toInt := i_nlt (a := v_count.toInt) (b := l2_39.toInt) rfl rfl c44
              refine ok_X9_refine (by omega) (by omega) (by omega) (by omega) (fun r48 r48_0 f11 f12 f13 f14 => ?_)
              refine ⟨(i_nn (a := 0) rfl (by omega)), (i_nn (a := 0) rfl (by omega)), (i_nn (a := 60) rfl (by omega)), i_cp (a := 0) (b := 60) rfl rfl (by omega) (by omega) (by omega), i_cp (a := 0) (b := 60) rfl rfl (by omega) (by omega) (by omega), ?_⟩
              intro g64 eg64
              refine ⟨fun c69 => ?_, fun c69 => ?_⟩
              · have f15 : r48.toInt ≠ l1_39.toInt := i_ne (a := r48.toInt) (b := l1_39.toInt) rfl rfl c69
                intro x77 ex77
                have f16 : x77.toInt = l2_39.toInt + 1 := i_add (a := l2_39.toInt) (b := 1) ex77 rfl rfl (by omega) (by omega)
                exact ih_39 r48 x77 g64 r48_0 (by omega) (by omega) (by omega) (by omega) (by have h8_0 := i_rng l2_39; have h8_1 := i_rng x77; omega)
              · have f17 : r48.toInt = l1_39.toInt := i_eq (a := r48.toInt) (b := l1_39.toInt) rfl rfl c69
                exact j_83 g64 r48_0 (by omega)
        exact ⟨(61 : Int).toNat + 1, j_39   ((61 : Int).toNat + 1) 0 0 v_groups_4 v_finer (by omega) (by omega) (by omega) (by omega) (by omega)⟩
      · have f18 : l2_4.toInt < v_count.toInt := i_nle (a := v_count.toInt) (b := l2_4.toInt) rfl rfl c9
        refine ok_X9_ends (by omega) (by omega) (fun r19 f19 => ?_)
        have j_30 : ∀ (s0_30 : Int32), ((s0_30.toInt = 0 ∧ r19.toInt = 0) ∨ (s0_30.toInt = 1)) → w_X9_fewestStates_30 Q (w_X9_fewestStates_4 v_count v_width v_ahead v_goes Q 0 v_finer n_4) s0_30 l2_4 l2_4 v_groups_4 := by
          intro s0_30 f20
          unfold w_X9_fewestStates_30
          refine ⟨i_in (by omega) (by omega), ?_⟩
          intro g30 eg30
          intro x31 ex31
          have f21 : x31.toInt = l2_4.toInt + 1 := i_add (a := l2_4.toInt) (b := 1) ex31 rfl rfl (by omega) (by omega)
          exact ih_4 x31 g30 (by omega) (by omega) (by have h8_0 := i_rng l2_4; have h8_1 := i_rng x31; omega)
        refine ⟨fun c22 => ?_, fun c22 => ?_⟩
        · have f22 : r19.toInt = 0 := i_eq (a := r19.toInt) (b := 0) rfl rfl c22
          exact j_30 0 (by omega)
        · have f23 : r19.toInt ≠ 0 := i_ne (a := r19.toInt) (b := 0) rfl rfl c22
          exact j_30 1 (by omega)
  exact ⟨(2147483648 : Int).toNat + 1, j_4   ((2147483648 : Int).toNat + 1) 0 v_groups (by omega) (by omega) (by omega)⟩
set_option maxHeartbeats 4000000 in
theorem ok_X9_reach {p1 : Int32} {v_stamp : Int32} {v_program_count : Int32} {v_program_kinds : Nat → Int32} {v_program_nexts : Nat → Int32} {v_program_others : Nat → Int32} {v_positionOf : Nat → Int32} {v_seen : Nat → Int32} {v_stack : Nat → Int32} {Q : Int64 → Int32 → Int32 → (Nat → Int32) → (Nat → Int32) → Prop} (a0 : 0 ≤ v_program_count.toInt) (a1 : v_program_count.toInt ≤ 512) (hq : ∀ (r : Int64) (ov_stamp : Int32) (ov_stackCount : Int32) (ov_seen : Nat → Int32) (ov_stack : Nat → Int32), 0 ≤ ov_stackCount.toInt + 1 → 0 ≤ ov_stackCount.toInt → Q r ov_stamp ov_stackCount ov_seen ov_stack) : w_X9_reach p1 v_stamp v_program_count v_program_kinds v_program_nexts v_program_others v_positionOf v_seen v_stack Q := by
  have q_t : (bz true).toInt = 1 := rfl
  have q_f : (bz false).toInt = 0 := rfl
  have q_m1 : ((-1) : Int32).toInt = (-1) := rfl
  have q_0 : (0 : Int32).toInt = 0 := rfl
  unfold w_X9_reach
  intro x8 ex8
  refine ok_X9_push  (fun r19_0 r19_1 r19_2 f1 => ?_)
  have j_25 : ∀ n_25 : Nat, ∀ (l2_25 : Int64) (l4_25 : Int32) (v_stackCount_25 : Int32) (v_seen_25 : Nat → Int32) (v_stack_25 : Nat → Int32), 0 ≤ l4_25.toInt → l4_25.toInt ≤ 512 → 0 ≤ v_stackCount_25.toInt → ((-1) * l4_25.toInt + 512).toNat < n_25 → w_X9_reach_25 v_program_count v_program_kinds v_program_nexts v_program_others v_positionOf Q x8 n_25 l2_25 l4_25 v_stackCount_25 v_seen_25 v_stack_25 := by
    intro n_25
    induction n_25 with
    | zero =>
      intro l2_25 l4_25 v_stackCount_25 v_seen_25 v_stack_25 f2 f3 f4 hm_25
      exfalso; omega
    | succ n_25 ih_25 =>
      intro l2_25 l4_25 v_stackCount_25 v_seen_25 v_stack_25 f2 f3 f4 hm_25
      unfold w_X9_reach_25
      unfold w_X9_reach_25B
      have j_177 : ((512 ≤ l4_25.toInt) ∨ (l4_25.toInt ≤ 511 ∧ v_stackCount_25.toInt ≤ 0) ∨ (l4_25.toInt ≤ 511 ∧ 1 ≤ v_stackCount_25.toInt ∧ 513 ≤ v_stackCount_25.toInt)) → w_X9_reach_177 Q l2_25 x8 v_stackCount_25 v_seen_25 v_stack_25 := by
        intro f5
        unfold w_X9_reach_177
        exact hq l2_25 x8 v_stackCount_25 v_seen_25 v_stack_25 (by omega) (by omega)
      refine ⟨fun c32 => ?_, fun c32 => ?_⟩
      · have f6 : 512 ≤ l4_25.toInt := i_le (a := 512) (b := l4_25.toInt) rfl rfl c32
        exact j_177  (by omega)
      · have f7 : l4_25.toInt < 512 := i_nle (a := 512) (b := l4_25.toInt) rfl rfl c32
        refine ⟨fun c39 => ?_, fun c39 => ?_⟩
        · have f8 : v_stackCount_25.toInt ≤ 0 := i_le (a := v_stackCount_25.toInt) (b := 0) rfl rfl c39
          exact j_177  (by omega)
        · have f9 : 0 < v_stackCount_25.toInt := i_nle (a := v_stackCount_25.toInt) (b := 0) rfl rfl c39
          refine ⟨fun c51 => ?_, fun c51 => ?_⟩
          · have f10 : 512 < v_stackCount_25.toInt := i_lt (a := 512) (b := v_stackCount_25.toInt) rfl rfl c51
            exact j_177  (by omega)
          · have f11 : v_stackCount_25.toInt ≤ 512 := i_nlt (a := 512) (b := v_stackCount_25.toInt) rfl rfl c51
            intro x60 ex60
            have f12 : x60.toInt = v_stackCount_25.toInt - 1 := i_sub (a := v_stackCount_25.toInt) (b := 1) ex60 rfl rfl (by omega) (by omega)
            refine ⟨i_in (by omega) (by omega), ?_⟩
            intro x72 ex72
            refine ok_X5_kindOf (by omega) (by omega) (fun r81 f13 => ?_)
            have j_171 : ∀ (l2_171 : Int64) (v_stackCount_171 : Int32) (v_seen_171 : Nat → Int32) (v_stack_171 : Nat → Int32), v_stackCount_25.toInt ≤ v_stackCount_171.toInt + 1 → w_X9_reach_171 Q (w_X9_reach_25 v_program_count v_program_kinds v_program_nexts v_program_others v_positionOf Q x8 n_25) l2_171 l4_25 v_stackCount_171 v_seen_171 v_stack_171 := by
              intro l2_171 v_stackCount_171 v_seen_171 v_stack_171 f14
              unfold w_X9_reach_171
              intro x171 ex171
              have f15 : x171.toInt = l4_25.toInt + 1 := i_add (a := l4_25.toInt) (b := 1) ex171 rfl rfl (by omega) (by omega)
              exact ih_25 l2_171 x171 v_stackCount_171 v_seen_171 v_stack_171 (by omega) (by omega) (by omega) (by have h8_0 := i_rng l4_25; have h8_1 := i_rng x171; omega)
            have j_119 : r81.toInt ≠ 0 → w_X9_reach_119 v_program_count v_program_nexts v_program_others x8 Q (w_X9_reach_25 v_program_count v_program_kinds v_program_nexts v_program_others v_positionOf Q x8 n_25) l2_25 l4_25 x72 r81 x60 v_seen_25 v_stack_25 := by
              intro f16
              unfold w_X9_reach_119
              refine ⟨fun c123 => ?_, fun c123 => ?_⟩
              · have f17 : r81.toInt ≠ 6 := i_ne (a := r81.toInt) (b := 6) rfl rfl c123
                have j_155 : ∀ (s0_155 : Int32), ((s0_155.toInt + 1 = 0) ∨ (r81.toInt = 4)) → w_X9_reach_155 v_program_count v_program_nexts x8 Q (w_X9_reach_25 v_program_count v_program_kinds v_program_nexts v_program_others v_positionOf Q x8 n_25) s0_155 l2_25 l4_25 x72 x60 v_seen_25 v_stack_25 := by
                  intro s0_155 f18
                  unfold w_X9_reach_155
                  refine ok_X9_push  (fun r155_0 r155_1 r155_2 f19 => ?_)
                  refine ok_X5_nextOf (by omega) (by omega) (fun r165 f20 => ?_)
                  refine ok_X9_push  (fun r168_0 r168_1 r168_2 f21 => ?_)
                  exact j_171 l2_25 r168_0 r168_1 r168_2 (by omega)
                refine ⟨fun c139 => ?_, fun c139 => ?_⟩
                · have f22 : r81.toInt ≠ 4 := i_ne (a := r81.toInt) (b := 4) rfl rfl c139
                  exact j_155 (-1) (by omega)
                · have f23 : r81.toInt = 4 := i_eq (a := r81.toInt) (b := 4) rfl rfl c139
                  refine ok_X5_otherOf (by omega) (by omega) (fun r148 f24 => ?_)
                  exact j_155 r148 (by omega)
              · have f25 : r81.toInt = 6 := i_eq (a := r81.toInt) (b := 6) rfl rfl c123
                intro y130 ey130
                exact j_171 y130 x60 v_seen_25 v_stack_25 (by omega)
            refine ⟨fun c88 => ?_, fun c88 => ?_⟩
            · have f26 : r81.toInt ≠ 0 := i_ne (a := r81.toInt) (b := 0) rfl rfl c88
              exact j_119  (by omega)
            · have f27 : r81.toInt = 0 := i_eq (a := r81.toInt) (b := 0) rfl rfl c88
              refine ⟨fun c93 => ?_, fun c93 => ?_⟩
              · have f28 : x72.toInt < 0 := i_lt (a := x72.toInt) (b := 0) rfl rfl c93
                exfalso; omega
              · have f29 : 0 ≤ x72.toInt := i_nlt (a := x72.toInt) (b := 0) rfl rfl c93
                refine ⟨fun c101 => ?_, fun c101 => ?_⟩
                · have f30 : 512 ≤ x72.toInt := i_le (a := 512) (b := x72.toInt) rfl rfl c101
                  exfalso; omega
                · have f31 : x72.toInt < 512 := i_nle (a := 512) (b := x72.toInt) rfl rfl c101
                  refine ⟨i_in (by omega) (by omega), ?_⟩
                  intro x112 ex112
                  intro y113 ey113
                  intro y114 ey114
                  exact j_171 y114 x60 v_seen_25 v_stack_25 (by omega)
  exact ⟨(512 : Int).toNat + 1, j_25   ((512 : Int).toNat + 1) 0 0 r19_0 r19_1 r19_2 (by omega) (by omega) (by omega) (by omega)⟩

set_option maxHeartbeats 4000000 in
theorem ok_X8_longestBeginning {p2 : Int32} {a1_count : Int32} {a1_items : Nat → Int32} {na1_items : Nat} {v_alphabet_count : Int32} {v_alphabet_begins : Nat → Int32} {v_one_count : Int32} {v_one_width : Int32} {v_one_ahead : Nat → Int64} {v_one_goes : Nat → Int32} {v_one_live : Nat → Bool} {Q : Int32 → (Nat → Bool) → Prop} (a0 : 0 ≤ a1_count.toInt) (a1 : a1_count.toInt ≤ (na1_items : Int)) (a2 : (na1_items : Int) ≤ 1000) (a3 : 0 ≤ v_alphabet_count.toInt) (a4 : v_alphabet_count.toInt ≤ 256) (a5 : 0 ≤ v_one_count.toInt) (a6 : v_one_count.toInt ≤ 60) (a7 : 0 ≤ v_one_width.toInt) (a8 : v_one_width.toInt ≤ 256) (hq : ∀ (r : Int32) (ov_one_live : Nat → Bool), Q r ov_one_live) : w_X8_longestBeginning p2 a1_count a1_items na1_items v_alphabet_count v_alphabet_begins v_one_count v_one_width v_one_ahead v_one_goes v_one_live Q := by
  have q_t : (bz true).toInt = 1 := rfl
  have q_f : (bz false).toInt = 0 := rfl
  unfold w_X8_longestBeginning
  refine ok_X9_longestBeginning (by omega) (by omega) (by omega) (by omega) (by omega) (by omega) (by omega) (by omega) (by omega) (fun r10 r10_0 => ?_)
  exact hq r10 r10_0 
set_option maxHeartbeats 4000000 in
theorem ok_X8_writeParting {a1_items : Nat → Int32} {na1_items : Nat} {v_pairCount : Int32} {v_parted : Int32} {v_cameFrom : Nat → Int32} {v_cameBy : Nat → Int32} {Q : Int32 → Bool → (Nat → Int32) → Prop} (a0 : (na1_items : Int) ≤ 1000) (a1 : 0 ≤ v_pairCount.toInt) (a2 : v_pairCount.toInt ≤ 3600) (a3 : 0 ≤ v_parted.toInt + 1) (a4 : v_parted.toInt + 1 ≤ v_pairCount.toInt) (b0 : rp (fun k v => v < k ∧ -1 ≤ v) v_cameFrom 0 v_pairCount.toInt) (hq : ∀ (oa1_count : Int32) (oa1_over : Bool) (oa1_items : Nat → Int32), 0 ≤ oa1_count.toInt + 1 → 0 ≤ oa1_count.toInt → oa1_count.toInt ≤ 3599 → oa1_count.toInt ≤ 3600 → oa1_count.toInt ≤ 3601 → oa1_count.toInt ≤ (na1_items : Int) → Q oa1_count oa1_over oa1_items) : w_X8_writeParting a1_items na1_items v_parted v_cameFrom v_cameBy Q := by
  have q_t : (bz true).toInt = 1 := rfl
  have q_f : (bz false).toInt = 0 := rfl
  unfold w_X8_writeParting
  refine ok_X7_empty  (fun r1_0 r1_1 f1 f2 => ?_)
  have j_9 : ∀ n_9 : Nat, ∀ (l2_9 : Int32) (a1_count_9 : Int32) (a1_over_9 : Bool) (a1_items_9 : Nat → Int32), 0 ≤ l2_9.toInt + 1 → l2_9.toInt ≤ v_parted.toInt → 0 ≤ a1_count_9.toInt → a1_count_9.toInt ≤ (na1_items : Int) → (l2_9.toInt + 2147483649).toNat < n_9 → w_X8_writeParting_9 na1_items v_cameFrom v_cameBy Q n_9 l2_9 a1_count_9 a1_over_9 a1_items_9 := by
    intro n_9
    induction n_9 with
    | zero =>
      intro l2_9 a1_count_9 a1_over_9 a1_items_9 f3 f4 f5 f6 hm_9
      exfalso; omega
    | succ n_9 ih_9 =>
      intro l2_9 a1_count_9 a1_over_9 a1_items_9 f3 f4 f5 f6 hm_9
      unfold w_X8_writeParting_9
      unfold w_X8_writeParting_9B
      have j_40 : l2_9.toInt ≤ 0 → w_X8_writeParting_40 na1_items Q a1_count_9 a1_over_9 a1_items_9 := by
        intro f7
        unfold w_X8_writeParting_40
        refine ok_X7_turnRound (by omega) (by omega) (by omega) (fun r41_0 => ?_)
        exact hq a1_count_9 a1_over_9 r41_0 (by omega) (by omega) (by omega) (by omega) (by omega) (by omega)
      refine ⟨fun c10 => ?_, fun c10 => ?_⟩
      · have f8 : l2_9.toInt ≤ 0 := i_le (a := l2_9.toInt) (b := 0) rfl rfl c10
        exact j_40  (by omega)
      · have f9 : 0 < l2_9.toInt := i_nle (a := l2_9.toInt) (b := 0) rfl rfl c10
        refine ⟨fun c17 => ?_, fun c17 => ?_⟩
        · have f10 : 3600 ≤ l2_9.toInt := i_le (a := 3600) (b := l2_9.toInt) rfl rfl c17
          exfalso; omega
        · have f11 : l2_9.toInt < 3600 := i_nle (a := 3600) (b := l2_9.toInt) rfl rfl c17
          refine ⟨i_in (by omega) (by omega), ?_⟩
          intro x26 ex26
          refine ok_X7_add (by omega) (by omega) (by omega) (fun r27_0 r27_1 r27_2 f12 f13 f14 f15 => ?_)
          refine ⟨i_in (by omega) (by omega), ?_⟩
          intro x35 ex35
          have f16 : x35.toInt + 1 ≤ l2_9.toInt ∧ 0 ≤ x35.toInt + 1 := by have h9 := rp_get (P := (fun k v => v < k ∧ -1 ≤ v)) (a := l2_9.toInt) b0 ex35 rfl (by omega) (by omega) (by omega); omega
          exact ih_9 x35 r27_0 r27_1 r27_2 (by omega) (by omega) (by omega) (by omega) (by have h8_0 := i_rng l2_9; have h8_1 := i_rng x35; omega)
  exact ⟨(v_parted.toInt + 2147483649).toNat + 1, j_9   ((v_parted.toInt + 2147483649).toNat + 1) v_parted r1_0 r1_1 a1_items (by omega) (by omega) (by omega) (by omega) (by omega)⟩
set_option maxHeartbeats 4000000 in
theorem ok_X8_look {p1 : Int32} {p2 : Int32} {p3 : Int32} {v_onlyInOne : Bool} {v_onlyInOther : Bool} {v_parted : Int32} {Q : Bool → Bool → Int32 → Prop} (a0 : 0 ≤ v_parted.toInt + 1) (a1 : 0 ≤ p2.toInt) (a2 : p2.toInt ≤ 1) (a3 : 0 ≤ p3.toInt) (a4 : p3.toInt ≤ 1) (a5 : 0 ≤ p1.toInt) (hq : ∀ (ov_onlyInOne : Bool) (ov_onlyInOther : Bool) (ov_parted : Int32), 0 ≤ (bz ov_onlyInOne).toInt → (bz ov_onlyInOne).toInt ≤ 1 → 0 ≤ (bz ov_onlyInOther).toInt → (bz ov_onlyInOther).toInt ≤ 1 → 0 ≤ ov_parted.toInt + 1 → v_parted.toInt ≤ ov_parted.toInt → ((ov_parted.toInt = v_parted.toInt ∧ p2.toInt = p3.toInt) ∨ (ov_parted.toInt = v_parted.toInt) ∨ (ov_parted.toInt = p1.toInt ∧ v_parted.toInt + 1 = 0)) → Q ov_onlyInOne ov_onlyInOther ov_parted) : w_X8_look p1 p2 p3 v_onlyInOne v_onlyInOther v_parted Q := by
  have q_t : (bz true).toInt = 1 := rfl
  have q_f : (bz false).toInt = 0 := rfl
  have q_0 : (0 : Int32).toInt = 0 := rfl
  have q_1 : (1 : Int32).toInt = 1 := rfl
  unfold w_X8_look
  have f1 : (0 ≤ (bz v_onlyInOne).toInt ∧ (bz v_onlyInOne).toInt ≤ 1) := i_bzr v_onlyInOne
  have j_18 : ∀ (s0_18 : Int32), ((s0_18.toInt = 1 ∧ p3.toInt = 0) ∨ (s0_18.toInt = 0)) → w_X8_look_18 p1 p2 p3 Q s0_18 (bz v_onlyInOne) v_onlyInOne v_onlyInOther v_parted := by
    intro s0_18 f2
    unfold w_X8_look_18
    intro x18 ex18
    have f3 : (0 ≤ x18.toInt ∧ x18.toInt ≤ 1) := i_or01 (a := (bz v_onlyInOne).toInt) (b := s0_18.toInt) ex18 rfl rfl (by omega) (by omega) (by omega) (by omega)
    refine ⟨i_01 (by omega) (by omega), ?_⟩
    intro b19 eb19
    have f4 : (bz b19).toInt = x18.toInt := by rw [← eb19]
    have f5 : (0 ≤ (bz v_onlyInOther).toInt ∧ (bz v_onlyInOther).toInt ≤ 1) := i_bzr v_onlyInOther
    have j_40 : ∀ (s0_40 : Int32), ((s0_40.toInt = 1 ∧ p2.toInt = 0) ∨ (s0_40.toInt = 0)) → w_X8_look_40 p1 p2 p3 Q s0_40 (bz v_onlyInOther) b19 v_onlyInOther v_parted := by
      intro s0_40 f6
      unfold w_X8_look_40
      intro x40 ex40
      have f7 : (0 ≤ x40.toInt ∧ x40.toInt ≤ 1) := i_or01 (a := (bz v_onlyInOther).toInt) (b := s0_40.toInt) ex40 rfl rfl (by omega) (by omega) (by omega) (by omega)
      refine ⟨i_01 (by omega) (by omega), ?_⟩
      intro b41 eb41
      have f8 : (bz b41).toInt = x40.toInt := by rw [← eb41]
      have j_62 : ∀ (v_parted_62 : Int32), 0 ≤ v_parted_62.toInt + 1 → v_parted.toInt ≤ v_parted_62.toInt → ((v_parted_62.toInt = v_parted.toInt ∧ p2.toInt = p3.toInt) ∨ (v_parted_62.toInt = v_parted.toInt) ∨ (v_parted_62.toInt = p1.toInt ∧ v_parted.toInt + 1 = 0)) → w_X8_look_62 Q b19 b41 v_parted_62 := by
        intro v_parted_62 f9 f10 f11
        unfold w_X8_look_62
        exact hq b19 b41 v_parted_62 (by omega) (by omega) (by omega) (by omega) (by omega) (by omega) (by omega)
      refine ⟨fun c46 => ?_, fun c46 => ?_⟩
      · have f12 : p2.toInt = p3.toInt := i_eq (a := p2.toInt) (b := p3.toInt) rfl rfl c46
        exact j_62 v_parted (by omega) (by omega) (by omega)
      · have f13 : p2.toInt ≠ p3.toInt := i_ne (a := p2.toInt) (b := p3.toInt) rfl rfl c46
        refine ⟨fun c54 => ?_, fun c54 => ?_⟩
        · have f14 : v_parted.toInt ≠ (-1) := i_ne (a := v_parted.toInt) (b := (-1)) rfl rfl c54
          exact j_62 v_parted (by omega) (by omega) (by omega)
        · have f15 : v_parted.toInt = (-1) := i_eq (a := v_parted.toInt) (b := (-1)) rfl rfl c54
          exact j_62 p1 (by omega) (by omega) (by omega)
    have j_39 : w_X8_look_39 p1 p2 p3 Q (bz v_onlyInOther) b19 v_onlyInOther v_parted := by
      unfold w_X8_look_39
      exact j_40 0 (by omega)
    refine ⟨fun c28 => ?_, fun c28 => ?_⟩
    · have f16 : p3.toInt = 0 := i_eq (a := p3.toInt) (b := 0) rfl rfl c28
      exact j_39  
    · have f17 : p3.toInt ≠ 0 := i_ne (a := p3.toInt) (b := 0) rfl rfl c28
      refine ⟨fun c32 => ?_, fun c32 => ?_⟩
      · have f18 : p2.toInt ≠ 0 := i_ne (a := p2.toInt) (b := 0) rfl rfl c32
        exact j_39  
      · have f19 : p2.toInt = 0 := i_eq (a := p2.toInt) (b := 0) rfl rfl c32
        exact j_40 1 (by omega)
  have j_17 : w_X8_look_17 p1 p2 p3 Q (bz v_onlyInOne) v_onlyInOne v_onlyInOther v_parted := by
    unfold w_X8_look_17
    exact j_18 0 (by omega)
  refine ⟨fun c6 => ?_, fun c6 => ?_⟩
  · have f20 : p2.toInt = 0 := i_eq (a := p2.toInt) (b := 0) rfl rfl c6
    exact j_17  
  · have f21 : p2.toInt ≠ 0 := i_ne (a := p2.toInt) (b := 0) rfl rfl c6
    refine ⟨fun c10 => ?_, fun c10 => ?_⟩
    · have f22 : p3.toInt ≠ 0 := i_ne (a := p3.toInt) (b := 0) rfl rfl c10
      exact j_17  
    · have f23 : p3.toInt = 0 := i_eq (a := p3.toInt) (b := 0) rfl rfl c10
      exact j_18 1 (by omega)
set_option maxHeartbeats 4000000 in
theorem ok_X8_meet {p1 : Int32} {p2 : Int32} {p3 : Int32} {v_stamp : Int32} {v_pairCount : Int32} {v_met : Nat → Int32} {v_pairs : Nat → Int32} {v_cameFrom : Nat → Int32} {v_cameBy : Nat → Int32} {Q : Int32 → (Nat → Int32) → (Nat → Int32) → (Nat → Int32) → (Nat → Int32) → Prop} (a0 : 0 ≤ v_pairCount.toInt) (a1 : v_pairCount.toInt ≤ 3600) (a2 : 0 ≤ p2.toInt + 1) (a3 : p2.toInt + 1 ≤ v_pairCount.toInt) (b0 : rp (fun k v => v < k ∧ -1 ≤ v) v_cameFrom 0 v_pairCount.toInt) (hq : ∀ (ov_pairCount : Int32) (ov_met : Nat → Int32) (ov_pairs : Nat → Int32) (ov_cameFrom : Nat → Int32) (ov_cameBy : Nat → Int32), v_pairCount.toInt ≤ ov_pairCount.toInt → ((0 ≤ p1.toInt ∧ p1.toInt ≤ 3599 ∧ v_pairCount.toInt ≤ 3599 ∧ ov_pairCount.toInt = v_pairCount.toInt + 1) ∨ (ov_pairCount.toInt = v_pairCount.toInt)) → rp (fun k v => v < k ∧ -1 ≤ v) ov_cameFrom 0 v_pairCount.toInt → rp (fun k v => v < k ∧ -1 ≤ v) ov_cameFrom 0 ov_pairCount.toInt → Q ov_pairCount ov_met ov_pairs ov_cameFrom ov_cameBy) : w_X8_meet p1 p2 p3 v_stamp v_pairCount v_met v_pairs v_cameFrom v_cameBy Q := by
  have q_t : (bz true).toInt = 1 := rfl
  have q_f : (bz false).toInt = 0 := rfl
  unfold w_X8_meet
  have j_34 : w_X8_meet_34 Q v_pairCount v_met v_pairs v_cameFrom v_cameBy := by
    unfold w_X8_meet_34
    exact hq v_pairCount v_met v_pairs v_cameFrom v_cameBy (by omega) (by omega) (rp_mono b0 (by omega) (by omega)) (rp_mono b0 (by omega) (by omega))
  refine ⟨fun c1 => ?_, fun c1 => ?_⟩
  · have f1 : p1.toInt < 0 := i_lt (a := p1.toInt) (b := 0) rfl rfl c1
    exact j_34  
  · have f2 : 0 ≤ p1.toInt := i_nlt (a := p1.toInt) (b := 0) rfl rfl c1
    refine ⟨fun c8 => ?_, fun c8 => ?_⟩
    · have f3 : 3600 ≤ p1.toInt := i_le (a := 3600) (b := p1.toInt) rfl rfl c8
      exact j_34  
    · have f4 : p1.toInt < 3600 := i_nle (a := 3600) (b := p1.toInt) rfl rfl c8
      refine ⟨i_in (by omega) (by omega), ?_⟩
      intro x16 ex16
      refine ⟨fun c21 => ?_, fun c21 => ?_⟩
      · have f5 : x16.toInt = v_stamp.toInt := i_eq (a := x16.toInt) (b := v_stamp.toInt) rfl rfl c21
        exact j_34  
      · have f6 : x16.toInt ≠ v_stamp.toInt := i_ne (a := x16.toInt) (b := v_stamp.toInt) rfl rfl c21
        refine ⟨fun c31 => ?_, fun c31 => ?_⟩
        · have f7 : v_pairCount.toInt < 3600 := i_lt (a := v_pairCount.toInt) (b := 3600) rfl rfl c31
          refine ⟨i_in (by omega) (by omega), ?_⟩
          intro g44 eg44
          refine ⟨i_in (by omega) (by omega), ?_⟩
          intro g54 eg54
          refine ⟨i_in (by omega) (by omega), ?_⟩
          intro g64 eg64
          have h8 : rp (fun k v => v < k ∧ -1 ≤ v) g64 0 (v_pairCount.toInt + 1) := rp_ext (P := (fun k v => v < k ∧ -1 ≤ v)) (a := v_pairCount.toInt) (b := p2.toInt) b0 eg64 rfl rfl (by omega) (by omega) ⟨(by omega), (by omega)⟩
          refine ⟨i_in (by omega) (by omega), ?_⟩
          intro g74 eg74
          intro x81 ex81
          have f9 : x81.toInt = v_pairCount.toInt + 1 := i_add (a := v_pairCount.toInt) (b := 1) ex81 rfl rfl (by omega) (by omega)
          exact hq x81 g44 g54 g64 g74 (by omega) (by omega) (rp_mono h8 (by omega) (by omega)) (rp_mono h8 (by omega) (by omega))
        · have f10 : 3600 ≤ v_pairCount.toInt := i_nlt (a := v_pairCount.toInt) (b := 3600) rfl rfl c31
          exact j_34  
set_option maxHeartbeats 4000000 in
theorem ok_X8_walkBoth {v_stamp : Int32} {v_alphabet_count : Int32} {v_alphabet_begins : Nat → Int32} {v_one_count : Int32} {v_one_width : Int32} {v_one_ahead : Nat → Int64} {v_one_goes : Nat → Int32} {v_other_count : Int32} {v_other_width : Int32} {v_other_ahead : Nat → Int64} {v_other_goes : Nat → Int32} {v_met : Nat → Int32} {v_pairs : Nat → Int32} {v_cameFrom : Nat → Int32} {v_cameBy : Nat → Int32} {Q : Bool → Bool → Int32 → Int32 → Int32 → (Nat → Int32) → (Nat → Int32) → (Nat → Int32) → (Nat → Int32) → Prop} (a0 : 0 ≤ v_alphabet_count.toInt) (a1 : v_alphabet_count.toInt ≤ 256) (a2 : 0 ≤ v_one_count.toInt) (a3 : v_one_count.toInt ≤ 60) (a4 : 0 ≤ v_one_width.toInt) (a5 : v_one_width.toInt ≤ 256) (a6 : 0 ≤ v_other_count.toInt) (a7 : v_other_count.toInt ≤ 60) (a8 : 0 ≤ v_other_width.toInt) (a9 : v_other_width.toInt ≤ 256) (hq : ∀ (ov_onlyInOne : Bool) (ov_onlyInOther : Bool) (ov_stamp : Int32) (ov_pairCount : Int32) (ov_parted : Int32) (ov_met : Nat → Int32) (ov_pairs : Nat → Int32) (ov_cameFrom : Nat → Int32) (ov_cameBy : Nat → Int32), 0 ≤ ov_pairCount.toInt + 1 → 0 ≤ ov_pairCount.toInt → ov_pairCount.toInt ≤ 3600 → ov_pairCount.toInt ≤ 3601 → 0 ≤ ov_parted.toInt + 1 → ov_parted.toInt ≤ 3599 → ov_parted.toInt ≤ 3600 → ov_parted.toInt ≤ 3601 → ov_parted.toInt ≤ ov_pairCount.toInt → ov_parted.toInt + 1 ≤ ov_pairCount.toInt → rp (fun k v => v < k ∧ -1 ≤ v) ov_cameFrom 0 0 → rp (fun k v => v < k ∧ -1 ≤ v) ov_cameFrom 0 (ov_parted.toInt + 1) → rp (fun k v => v < k ∧ -1 ≤ v) ov_cameFrom (ov_parted.toInt + 1) 0 → rp (fun k v => v < k ∧ -1 ≤ v) ov_cameFrom (ov_parted.toInt + 1) (ov_parted.toInt + 1) → rp (fun k v => v < k ∧ -1 ≤ v) ov_cameFrom 0 ov_pairCount.toInt → rp (fun k v => v < k ∧ -1 ≤ v) ov_cameFrom (ov_parted.toInt + 1) ov_pairCount.toInt → Q ov_onlyInOne ov_onlyInOther ov_stamp ov_pairCount ov_parted ov_met ov_pairs ov_cameFrom ov_cameBy) : w_X8_walkBoth v_stamp v_alphabet_count v_alphabet_begins v_one_count v_one_width v_one_ahead v_one_goes v_other_count v_other_width v_other_ahead v_other_goes v_met v_pairs v_cameFrom v_cameBy Q := by
  have q_t : (bz true).toInt = 1 := rfl
  have q_f : (bz false).toInt = 0 := rfl
  have q_m1 : ((-1) : Int32).toInt = (-1) := rfl
  have q_0 : (0 : Int32).toInt = 0 := rfl
  unfold w_X8_walkBoth
  intro x21 ex21
  refine ok_X8_meet (by omega) (by omega) (by omega) (by omega) (rp_nil (by omega)) (fun r34_0 r34_1 r34_2 r34_3 r34_4 f1 f2 h3 h4 => ?_)
  have j_39 : ∀ n_39 : Nat, ∀ (l1_39 : Int32) (v_onlyInOne_39 : Bool) (v_onlyInOther_39 : Bool) (v_pairCount_39 : Int32) (v_parted_39 : Int32) (v_met_39 : Nat → Int32) (v_pairs_39 : Nat → Int32) (v_cameFrom_39 : Nat → Int32) (v_cameBy_39 : Nat → Int32), 0 ≤ l1_39.toInt → l1_39.toInt ≤ v_pairCount_39.toInt → r34_0.toInt ≤ v_pairCount_39.toInt → v_parted_39.toInt ≤ l1_39.toInt → v_pairCount_39.toInt ≤ 3600 → 0 ≤ v_parted_39.toInt + 1 → v_parted_39.toInt + 1 ≤ v_pairCount_39.toInt → rp (fun k v => v < k ∧ -1 ≤ v) v_cameFrom_39 0 0 → rp (fun k v => v < k ∧ -1 ≤ v) v_cameFrom_39 0 l1_39.toInt → rp (fun k v => v < k ∧ -1 ≤ v) v_cameFrom_39 0 (v_parted_39.toInt + 1) → rp (fun k v => v < k ∧ -1 ≤ v) v_cameFrom_39 l1_39.toInt 0 → rp (fun k v => v < k ∧ -1 ≤ v) v_cameFrom_39 l1_39.toInt l1_39.toInt → rp (fun k v => v < k ∧ -1 ≤ v) v_cameFrom_39 l1_39.toInt (v_parted_39.toInt + 1) → rp (fun k v => v < k ∧ -1 ≤ v) v_cameFrom_39 (v_parted_39.toInt + 1) 0 → rp (fun k v => v < k ∧ -1 ≤ v) v_cameFrom_39 (v_parted_39.toInt + 1) l1_39.toInt → rp (fun k v => v < k ∧ -1 ≤ v) v_cameFrom_39 (v_parted_39.toInt + 1) (v_parted_39.toInt + 1) → rp (fun k v => v < k ∧ -1 ≤ v) v_cameFrom_39 0 r34_0.toInt → rp (fun k v => v < k ∧ -1 ≤ v) v_cameFrom_39 0 v_pairCount_39.toInt → rp (fun k v => v < k ∧ -1 ≤ v) v_cameFrom_39 l1_39.toInt r34_0.toInt → rp (fun k v => v < k ∧ -1 ≤ v) v_cameFrom_39 l1_39.toInt v_pairCount_39.toInt → rp (fun k v => v < k ∧ -1 ≤ v) v_cameFrom_39 (v_parted_39.toInt + 1) r34_0.toInt → rp (fun k v => v < k ∧ -1 ≤ v) v_cameFrom_39 (v_parted_39.toInt + 1) v_pairCount_39.toInt → ((-1) * l1_39.toInt + 3600).toNat < n_39 → w_X8_walkBoth_39 v_alphabet_count v_alphabet_begins v_one_count v_one_width v_one_ahead v_one_goes v_other_count v_other_width v_other_ahead v_other_goes Q x21 n_39 l1_39 v_onlyInOne_39 v_onlyInOther_39 v_pairCount_39 v_parted_39 v_met_39 v_pairs_39 v_cameFrom_39 v_cameBy_39 := by
    intro n_39
    induction n_39 with
    | zero =>
      intro l1_39 v_onlyInOne_39 v_onlyInOther_39 v_pairCount_39 v_parted_39 v_met_39 v_pairs_39 v_cameFrom_39 v_cameBy_39 f5 f6 f7 f8 f9 f10 f11 h12 h13 h14 h15 h16 h17 h18 h19 h20 h21 h22 h23 h24 h25 h26 hm_39
      exfalso; omega
    | succ n_39 ih_39 =>
      intro l1_39 v_onlyInOne_39 v_onlyInOther_39 v_pairCount_39 v_parted_39 v_met_39 v_pairs_39 v_cameFrom_39 v_cameBy_39 f5 f6 f7 f8 f9 f10 f11 h12 h13 h14 h15 h16 h17 h18 h19 h20 h21 h22 h23 h24 h25 h26 hm_39
      unfold w_X8_walkBoth_39
      unfold w_X8_walkBoth_39B
      have j_160 : v_pairCount_39.toInt ≤ l1_39.toInt → w_X8_walkBoth_160 Q v_onlyInOne_39 v_onlyInOther_39 x21 v_pairCount_39 v_parted_39 v_met_39 v_pairs_39 v_cameFrom_39 v_cameBy_39 := by
        intro f27
        unfold w_X8_walkBoth_160
        exact hq v_onlyInOne_39 v_onlyInOther_39 x21 v_pairCount_39 v_parted_39 v_met_39 v_pairs_39 v_cameFrom_39 v_cameBy_39 (by omega) (by omega) (by omega) (by omega) (by omega) (by omega) (by omega) (by omega) (by omega) (by omega) (rp_mono h22 (by omega) (by omega)) (rp_mono h22 (by omega) (by omega)) (rp_mono h26 (by omega) (by omega)) (rp_mono h26 (by omega) (by omega)) (rp_mono h22 (by omega) (by omega)) (rp_mono h26 (by omega) (by omega))
      refine ⟨fun c44 => ?_, fun c44 => ?_⟩
      · have f28 : v_pairCount_39.toInt ≤ l1_39.toInt := i_le (a := v_pairCount_39.toInt) (b := l1_39.toInt) rfl rfl c44
        exact j_160  (by omega)
      · have f29 : l1_39.toInt < v_pairCount_39.toInt := i_nle (a := v_pairCount_39.toInt) (b := l1_39.toInt) rfl rfl c44
        refine ⟨fun c51 => ?_, fun c51 => ?_⟩
        · have f30 : 3600 ≤ l1_39.toInt := i_le (a := 3600) (b := l1_39.toInt) rfl rfl c51
          exfalso; omega
        · have f31 : l1_39.toInt < 3600 := i_nle (a := 3600) (b := l1_39.toInt) rfl rfl c51
          refine ⟨i_in (by omega) (by omega), ?_⟩
          intro x59 ex59
          intro x62 ex62
          refine ⟨i_in (by omega) (by omega), ?_⟩
          intro x69 ex69
          have f32 : x69.toInt = x59.toInt := congrArg Int32.toInt (ex69.trans ex59.symm)
          intro x72 ex72
          refine ok_X9_ends (by omega) (by omega) (fun r81 f33 => ?_)
          refine ok_X9_ends (by omega) (by omega) (fun r89 f34 => ?_)
          refine ok_X8_look (by omega) (by omega) (by omega) (by omega) (by omega) (by omega) (fun r92_0 r92_1 r92_2 f35 f36 f37 f38 f39 f40 f41 => ?_)
          have j_98 : ∀ n_98 : Nat, ∀ (l4_98 : Int32) (v_pairCount_98 : Int32) (v_met_98 : Nat → Int32) (v_pairs_98 : Nat → Int32) (v_cameFrom_98 : Nat → Int32) (v_cameBy_98 : Nat → Int32), 0 ≤ l4_98.toInt → l4_98.toInt ≤ v_alphabet_count.toInt → v_pairCount_39.toInt ≤ v_pairCount_98.toInt → v_pairCount_98.toInt ≤ 3600 → rp (fun k v => v < k ∧ -1 ≤ v) v_cameFrom_98 0 0 → rp (fun k v => v < k ∧ -1 ≤ v) v_cameFrom_98 l4_98.toInt 0 → rp (fun k v => v < k ∧ -1 ≤ v) v_cameFrom_98 l4_98.toInt l4_98.toInt → rp (fun k v => v < k ∧ -1 ≤ v) v_cameFrom_98 0 l1_39.toInt → rp (fun k v => v < k ∧ -1 ≤ v) v_cameFrom_98 l4_98.toInt l1_39.toInt → rp (fun k v => v < k ∧ -1 ≤ v) v_cameFrom_98 0 (v_parted_39.toInt + 1) → rp (fun k v => v < k ∧ -1 ≤ v) v_cameFrom_98 l4_98.toInt (v_parted_39.toInt + 1) → rp (fun k v => v < k ∧ -1 ≤ v) v_cameFrom_98 l1_39.toInt 0 → rp (fun k v => v < k ∧ -1 ≤ v) v_cameFrom_98 l1_39.toInt l1_39.toInt → rp (fun k v => v < k ∧ -1 ≤ v) v_cameFrom_98 l1_39.toInt (v_parted_39.toInt + 1) → rp (fun k v => v < k ∧ -1 ≤ v) v_cameFrom_98 (v_parted_39.toInt + 1) 0 → rp (fun k v => v < k ∧ -1 ≤ v) v_cameFrom_98 (v_parted_39.toInt + 1) l1_39.toInt → rp (fun k v => v < k ∧ -1 ≤ v) v_cameFrom_98 (v_parted_39.toInt + 1) (v_parted_39.toInt + 1) → rp (fun k v => v < k ∧ -1 ≤ v) v_cameFrom_98 0 r34_0.toInt → rp (fun k v => v < k ∧ -1 ≤ v) v_cameFrom_98 l4_98.toInt r34_0.toInt → rp (fun k v => v < k ∧ -1 ≤ v) v_cameFrom_98 0 v_pairCount_39.toInt → rp (fun k v => v < k ∧ -1 ≤ v) v_cameFrom_98 0 v_pairCount_98.toInt → rp (fun k v => v < k ∧ -1 ≤ v) v_cameFrom_98 l4_98.toInt v_pairCount_39.toInt → rp (fun k v => v < k ∧ -1 ≤ v) v_cameFrom_98 l4_98.toInt v_pairCount_98.toInt → rp (fun k v => v < k ∧ -1 ≤ v) v_cameFrom_98 l1_39.toInt r34_0.toInt → rp (fun k v => v < k ∧ -1 ≤ v) v_cameFrom_98 l1_39.toInt v_pairCount_39.toInt → rp (fun k v => v < k ∧ -1 ≤ v) v_cameFrom_98 l1_39.toInt v_pairCount_98.toInt → rp (fun k v => v < k ∧ -1 ≤ v) v_cameFrom_98 (v_parted_39.toInt + 1) r34_0.toInt → rp (fun k v => v < k ∧ -1 ≤ v) v_cameFrom_98 (v_parted_39.toInt + 1) v_pairCount_39.toInt → rp (fun k v => v < k ∧ -1 ≤ v) v_cameFrom_98 (v_parted_39.toInt + 1) v_pairCount_98.toInt → ((-1) * l4_98.toInt + 2147483648).toNat < n_98 → w_X8_walkBoth_98 v_alphabet_count v_alphabet_begins v_one_count v_one_width v_one_goes v_other_count v_other_width v_other_goes x21 Q (w_X8_walkBoth_39 v_alphabet_count v_alphabet_begins v_one_count v_one_width v_one_ahead v_one_goes v_other_count v_other_width v_other_ahead v_other_goes Q x21 n_39) l1_39 x62 x72 r92_0 r92_1 r92_2 n_98 l4_98 v_pairCount_98 v_met_98 v_pairs_98 v_cameFrom_98 v_cameBy_98 := by
            intro n_98
            induction n_98 with
            | zero =>
              intro l4_98 v_pairCount_98 v_met_98 v_pairs_98 v_cameFrom_98 v_cameBy_98 f42 f43 f44 f45 h46 h47 h48 h49 h50 h51 h52 h53 h54 h55 h56 h57 h58 h59 h60 h61 h62 h63 h64 h65 h66 h67 h68 h69 h70 hm_98
              exfalso; omega
            | succ n_98 ih_98 =>
              intro l4_98 v_pairCount_98 v_met_98 v_pairs_98 v_cameFrom_98 v_cameBy_98 f42 f43 f44 f45 h46 h47 h48 h49 h50 h51 h52 h53 h54 h55 h56 h57 h58 h59 h60 h61 h62 h63 h64 h65 h66 h67 h68 h69 h70 hm_98
              unfold w_X8_walkBoth_98
              unfold w_X8_walkBoth_98B
              refine ⟨fun c107 => ?_, fun c107 => ?_⟩
              · have f71 : v_alphabet_count.toInt ≤ l4_98.toInt := i_le (a := v_alphabet_count.toInt) (b := l4_98.toInt) rfl rfl c107
                intro x154 ex154
                have f72 : x154.toInt = l1_39.toInt + 1 := i_add (a := l1_39.toInt) (b := 1) ex154 rfl rfl (by omega) (by omega)
                exact ih_39 x154 r92_0 r92_1 v_pairCount_98 r92_2 v_met_98 v_pairs_98 v_cameFrom_98 v_cameBy_98 (by omega) (by omega) (by omega) (by omega) (by omega) (by omega) (by omega) (rp_mono h62 (by omega) (by omega)) (rp_mono h62 (by omega) (by omega)) (rp_mono h62 (by omega) (by omega)) (rp_mono h70 (by omega) (by omega)) (rp_mono h70 (by omega) (by omega)) (rp_mono h70 (by omega) (by omega)) (rp_mono h70 (by omega) (by omega)) (rp_mono h70 (by omega) (by omega)) (rp_mono h70 (by omega) (by omega)) (rp_mono h62 (by omega) (by omega)) (rp_mono h62 (by omega) (by omega)) (rp_mono h70 (by omega) (by omega)) (rp_mono h70 (by omega) (by omega)) (rp_mono h70 (by omega) (by omega)) (rp_mono h70 (by omega) (by omega)) (by have h8_0 := i_rng l1_39; have h8_1 := i_rng x154; omega)
              · have f73 : l4_98.toInt < v_alphabet_count.toInt := i_nle (a := v_alphabet_count.toInt) (b := l4_98.toInt) rfl rfl c107
                refine ok_X9_next (by omega) (by omega) (by omega) (by omega) (fun r118 => ?_)
                intro x123 ex123
                refine ok_X9_next (by omega) (by omega) (by omega) (by omega) (fun r131 => ?_)
                intro x134 ex134
                refine ok_X0_leastOf (by omega) (by omega) (fun r142 f74 => ?_)
                refine ok_X8_meet (by omega) (by omega) (by omega) (by omega) (rp_mono h62 (by omega) (by omega)) (fun r145_0 r145_1 r145_2 r145_3 r145_4 f75 f76 h77 h78 => ?_)
                intro x148 ex148
                have f79 : x148.toInt = l4_98.toInt + 1 := i_add (a := l4_98.toInt) (b := 1) ex148 rfl rfl (by omega) (by omega)
                exact ih_98 x148 r145_0 r145_1 r145_2 r145_3 r145_4 (by omega) (by omega) (by omega) (by omega) (rp_mono h78 (by omega) (by omega)) (rp_mono h78 (by omega) (by omega)) (rp_nil (by omega)) (rp_mono h78 (by omega) (by omega)) (rp_mono h78 (by omega) (by omega)) (rp_mono h78 (by omega) (by omega)) (rp_mono h78 (by omega) (by omega)) (rp_mono h78 (by omega) (by omega)) (rp_mono h78 (by omega) (by omega)) (rp_mono h78 (by omega) (by omega)) (rp_mono h78 (by omega) (by omega)) (rp_mono h78 (by omega) (by omega)) (rp_mono h78 (by omega) (by omega)) (rp_mono h78 (by omega) (by omega)) (rp_mono h78 (by omega) (by omega)) (rp_mono h78 (by omega) (by omega)) (rp_mono h78 (by omega) (by omega)) (rp_mono h78 (by omega) (by omega)) (rp_mono h78 (by omega) (by omega)) (rp_mono h78 (by omega) (by omega)) (rp_mono h78 (by omega) (by omega)) (rp_mono h78 (by omega) (by omega)) (rp_mono h78 (by omega) (by omega)) (rp_mono h78 (by omega) (by omega)) (rp_mono h78 (by omega) (by omega)) (by have h8_0 := i_rng l4_98; have h8_1 := i_rng x148; omega)
          exact ⟨(2147483648 : Int).toNat + 1, j_98   ((2147483648 : Int).toNat + 1) 0 v_pairCount_39 v_met_39 v_pairs_39 v_cameFrom_39 v_cameBy_39 (by omega) (by omega) (by omega) (by omega) (rp_mono h22 (by omega) (by omega)) (rp_mono h22 (by omega) (by omega)) (rp_mono h22 (by omega) (by omega)) (rp_mono h22 (by omega) (by omega)) (rp_mono h22 (by omega) (by omega)) (rp_mono h22 (by omega) (by omega)) (rp_mono h22 (by omega) (by omega)) (rp_mono h24 (by omega) (by omega)) (rp_mono h24 (by omega) (by omega)) (rp_mono h24 (by omega) (by omega)) (rp_mono h26 (by omega) (by omega)) (rp_mono h26 (by omega) (by omega)) (rp_mono h26 (by omega) (by omega)) (rp_mono h22 (by omega) (by omega)) (rp_mono h22 (by omega) (by omega)) (rp_mono h22 (by omega) (by omega)) (rp_mono h22 (by omega) (by omega)) (rp_mono h22 (by omega) (by omega)) (rp_mono h22 (by omega) (by omega)) (rp_mono h24 (by omega) (by omega)) (rp_mono h24 (by omega) (by omega)) (rp_mono h24 (by omega) (by omega)) (rp_mono h26 (by omega) (by omega)) (rp_mono h26 (by omega) (by omega)) (rp_mono h26 (by omega) (by omega)) (by omega)⟩
  exact ⟨(3600 : Int).toNat + 1, j_39   ((3600 : Int).toNat + 1) 0 false false r34_0 (-1) r34_1 r34_2 r34_3 r34_4 (by omega) (by omega) (by omega) (by omega) (by omega) (by omega) (by omega) (rp_mono h4 (by omega) (by omega)) (rp_mono h4 (by omega) (by omega)) (rp_mono h4 (by omega) (by omega)) (rp_mono h4 (by omega) (by omega)) (rp_mono h4 (by omega) (by omega)) (rp_mono h4 (by omega) (by omega)) (rp_mono h4 (by omega) (by omega)) (rp_mono h4 (by omega) (by omega)) (rp_mono h4 (by omega) (by omega)) (rp_mono h4 (by omega) (by omega)) (rp_mono h4 (by omega) (by omega)) (rp_mono h4 (by omega) (by omega)) (rp_mono h4 (by omega) (by omega)) (rp_mono h4 (by omega) (by omega)) (rp_mono h4 (by omega) (by omega)) (by omega)⟩
set_option maxHeartbeats 4000000 in
theorem ok_X4_isMark {p0 : Int32} {Q : Int32 → Prop} (hq : ∀ (r : Int32), ((r.toInt = 0) ∨ (r.toInt = 1)) → Q r) : w_X4_isMark p0 Q := by
  have q_t : (bz true).toInt = 1 := rfl
  have q_f : (bz false).toInt = 0 := rfl
  have q_0 : (0 : Int32).toInt = 0 := rfl
  have q_1 : (1 : Int32).toInt = 1 := rfl
  unfold w_X4_isMark
  have j_76 : w_X4_isMark_76 Q := by
    unfold w_X4_isMark_76
    exact hq 1 (by omega)
  refine ⟨fun c1_0 => ?_, fun c1_1 => ?_, fun c1_2 => ?_, fun c1_3 => ?_, fun c1_4 => ?_, fun c1_5 => ?_, fun c1_6 => ?_, fun c1_7 => ?_, ?_⟩
  · have f1 : p0.toInt = 33 := i_eq (a := p0.toInt) (b := 33) rfl rfl c1_0
    exact j_76  
  · have f2 : p0.toInt = 35 := i_eq (a := p0.toInt) (b := 35) rfl rfl c1_1
    exact j_76  
  · have f3 : p0.toInt = 37 := i_eq (a := p0.toInt) (b := 37) rfl rfl c1_2
    exact j_76  
  · have f4 : p0.toInt = 58 := i_eq (a := p0.toInt) (b := 58) rfl rfl c1_3
    exact j_76  
  · have f5 : p0.toInt = 60 := i_eq (a := p0.toInt) (b := 60) rfl rfl c1_4
    exact j_76  
  · have f6 : p0.toInt = 61 := i_eq (a := p0.toInt) (b := 61) rfl rfl c1_5
    exact j_76  
  · have f7 : p0.toInt = 64 := i_eq (a := p0.toInt) (b := 64) rfl rfl c1_6
    exact j_76  
  · have f8 : p0.toInt = 126 := i_eq (a := p0.toInt) (b := 126) rfl rfl c1_7
    exact j_76  
  · intro c1_0 c1_1 c1_2 c1_3 c1_4 c1_5 c1_6 c1_7
    have f9 : p0.toInt ≠ 33 := i_ne (a := p0.toInt) (b := 33) rfl rfl c1_0
    have f10 : p0.toInt ≠ 35 := i_ne (a := p0.toInt) (b := 35) rfl rfl c1_1
    have f11 : p0.toInt ≠ 37 := i_ne (a := p0.toInt) (b := 37) rfl rfl c1_2
    have f12 : p0.toInt ≠ 58 := i_ne (a := p0.toInt) (b := 58) rfl rfl c1_3
    have f13 : p0.toInt ≠ 60 := i_ne (a := p0.toInt) (b := 60) rfl rfl c1_4
    have f14 : p0.toInt ≠ 61 := i_ne (a := p0.toInt) (b := 61) rfl rfl c1_5
    have f15 : p0.toInt ≠ 64 := i_ne (a := p0.toInt) (b := 64) rfl rfl c1_6
    have f16 : p0.toInt ≠ 126 := i_ne (a := p0.toInt) (b := 126) rfl rfl c1_7
    exact hq 0 (by omega)
set_option maxHeartbeats 4000000 in
theorem ok_X4_markOfLook {p0 : Int32} {Q : Int32 → Prop} (hq : ∀ (r : Int32), 32 ≤ r.toInt → r.toInt ≤ 126 → Q r) : w_X4_markOfLook p0 Q := by
  have q_t : (bz true).toInt = 1 := rfl
  have q_f : (bz false).toInt = 0 := rfl
  have q_33 : (33 : Int32).toInt = 33 := rfl
  have q_60 : (60 : Int32).toInt = 60 := rfl
  have q_61 : (61 : Int32).toInt = 61 := rfl
  have q_126 : (126 : Int32).toInt = 126 := rfl
  unfold w_X4_markOfLook
  refine ⟨fun c1_0 => ?_, fun c1_1 => ?_, fun c1_2 => ?_, ?_⟩
  · have f1 : p0.toInt = 0 := i_eq (a := p0.toInt) (b := 0) rfl rfl c1_0
    exact hq 61 (by omega) (by omega)
  · have f2 : p0.toInt = 1 := i_eq (a := p0.toInt) (b := 1) rfl rfl c1_1
    exact hq 33 (by omega) (by omega)
  · have f3 : p0.toInt = 2 := i_eq (a := p0.toInt) (b := 2) rfl rfl c1_2
    exact hq 60 (by omega) (by omega)
  · intro c1_0 c1_1 c1_2
    have f4 : p0.toInt ≠ 0 := i_ne (a := p0.toInt) (b := 0) rfl rfl c1_0
    have f5 : p0.toInt ≠ 1 := i_ne (a := p0.toInt) (b := 1) rfl rfl c1_1
    have f6 : p0.toInt ≠ 2 := i_ne (a := p0.toInt) (b := 2) rfl rfl c1_2
    exact hq 126 (by omega) (by omega)
set_option maxHeartbeats 4000000 in
theorem ok_X4_isGrouped {p0 : Int32} {p1 : Int32} {p2 : Int32} {Q : Int32 → Prop} (hq : ∀ (r : Int32), 0 ≤ r.toInt → r.toInt ≤ 1 → Q r) : w_X4_isGrouped p0 p1 p2 Q := by
  have q_t : (bz true).toInt = 1 := rfl
  have q_f : (bz false).toInt = 0 := rfl
  have q_0 : (0 : Int32).toInt = 0 := rfl
  have q_1 : (1 : Int32).toInt = 1 := rfl
  unfold w_X4_isGrouped
  refine ⟨fun c2 => ?_, fun c2 => ?_⟩
  · have f1 : p2.toInt ≠ (-1) := i_ne (a := p2.toInt) (b := (-1)) rfl rfl c2
    refine ⟨fun c8_0 => ?_, fun c8_1 => ?_, fun c8_2 => ?_, ?_⟩
    · have f2 : p0.toInt = 5 := i_eq (a := p0.toInt) (b := 5) rfl rfl c8_0
      have j_52 : ∀ (s0_52 : Int32), ((s0_52.toInt = 0) ∨ (s0_52.toInt = 1)) → w_X4_isGrouped_52 Q s0_52 := by
        intro s0_52 f3
        unfold w_X4_isGrouped_52
        refine ⟨i_01 (by omega) (by omega), ?_⟩
        exact hq s0_52 (by omega) (by omega)
      have j_47 : ((p1.toInt = 5) ∨ (p1.toInt = 7)) → w_X4_isGrouped_47 Q := by
        intro f4
        unfold w_X4_isGrouped_47
        exact j_52 1 (by omega)
      refine ⟨fun c38 => ?_, fun c38 => ?_⟩
      · have f5 : p1.toInt = 5 := i_eq (a := p1.toInt) (b := 5) rfl rfl c38
        exact j_47  (by omega)
      · have f6 : p1.toInt ≠ 5 := i_ne (a := p1.toInt) (b := 5) rfl rfl c38
        refine ⟨fun c44 => ?_, fun c44 => ?_⟩
        · have f7 : p1.toInt ≠ 7 := i_ne (a := p1.toInt) (b := 7) rfl rfl c44
          exact j_52 0 (by omega)
        · have f8 : p1.toInt = 7 := i_eq (a := p1.toInt) (b := 7) rfl rfl c44
          exact j_47  (by omega)
    · have f9 : p0.toInt = 6 := i_eq (a := p0.toInt) (b := 6) rfl rfl c8_1
      have j_75 : ∀ (s0_75 : Int32), ((s0_75.toInt = 0) ∨ (s0_75.toInt = 1)) → w_X4_isGrouped_75 Q s0_75 := by
        intro s0_75 f10
        unfold w_X4_isGrouped_75
        refine ⟨i_01 (by omega) (by omega), ?_⟩
        exact hq s0_75 (by omega) (by omega)
      have j_70 : ((p1.toInt = 5) ∨ (p1.toInt = 7) ∨ (p1.toInt = 6)) → w_X4_isGrouped_70 Q := by
        intro f11
        unfold w_X4_isGrouped_70
        exact j_75 1 (by omega)
      refine ⟨fun c55 => ?_, fun c55 => ?_⟩
      · have f12 : p1.toInt = 5 := i_eq (a := p1.toInt) (b := 5) rfl rfl c55
        exact j_70  (by omega)
      · have f13 : p1.toInt ≠ 5 := i_ne (a := p1.toInt) (b := 5) rfl rfl c55
        refine ⟨fun c61 => ?_, fun c61 => ?_⟩
        · have f14 : p1.toInt = 7 := i_eq (a := p1.toInt) (b := 7) rfl rfl c61
          exact j_70  (by omega)
        · have f15 : p1.toInt ≠ 7 := i_ne (a := p1.toInt) (b := 7) rfl rfl c61
          refine ⟨fun c67 => ?_, fun c67 => ?_⟩
          · have f16 : p1.toInt ≠ 6 := i_ne (a := p1.toInt) (b := 6) rfl rfl c67
            exact j_75 0 (by omega)
          · have f17 : p1.toInt = 6 := i_eq (a := p1.toInt) (b := 6) rfl rfl c67
            exact j_70  (by omega)
    · have f18 : p0.toInt = 7 := i_eq (a := p0.toInt) (b := 7) rfl rfl c8_2
      have j_87 : ∀ (s0_87 : Int32), ((s0_87.toInt = 0) ∨ (s0_87.toInt = 1 ∧ p1.toInt = 7)) → w_X4_isGrouped_87 Q s0_87 := by
        intro s0_87 f19
        unfold w_X4_isGrouped_87
        refine ⟨i_01 (by omega) (by omega), ?_⟩
        exact hq s0_87 (by omega) (by omega)
      refine ⟨fun c79 => ?_, fun c79 => ?_⟩
      · have f20 : p1.toInt ≠ 7 := i_ne (a := p1.toInt) (b := 7) rfl rfl c79
        exact j_87 0 (by omega)
      · have f21 : p1.toInt = 7 := i_eq (a := p1.toInt) (b := 7) rfl rfl c79
        exact j_87 1 (by omega)
    · intro c8_0 c8_1 c8_2
      have f22 : p0.toInt ≠ 5 := i_ne (a := p0.toInt) (b := 5) rfl rfl c8_0
      have f23 : p0.toInt ≠ 6 := i_ne (a := p0.toInt) (b := 6) rfl rfl c8_1
      have f24 : p0.toInt ≠ 7 := i_ne (a := p0.toInt) (b := 7) rfl rfl c8_2
      exact hq 0 (by omega) (by omega)
  · have f25 : p2.toInt = (-1) := i_eq (a := p2.toInt) (b := (-1)) rfl rfl c2
    exact hq 0 (by omega) (by omega)
set_option maxHeartbeats 4000000 in
theorem ok_X4_writeEdge {p1 : Int32} {v_row_count : Int32} {v_row_over : Bool} {v_row_items : Nat → Int32} {nv_row_items : Nat} {Q : Int32 → Bool → (Nat → Int32) → Prop} (a0 : 0 ≤ v_row_count.toInt) (a1 : v_row_count.toInt ≤ (nv_row_items : Int)) (a2 : (nv_row_items : Int) ≤ 1000) (hq : ∀ (ov_row_count : Int32) (ov_row_over : Bool) (ov_row_items : Nat → Int32), 0 ≤ ov_row_count.toInt → ov_row_count.toInt ≤ (nv_row_items : Int) → v_row_count.toInt ≤ ov_row_count.toInt → ((p1.toInt ≤ 1 ∧ v_row_count.toInt ≤ ov_row_count.toInt) ∨ (2 ≤ p1.toInt)) → Q ov_row_count ov_row_over ov_row_items) : w_X4_writeEdge p1 v_row_count v_row_over v_row_items nv_row_items Q := by
  have q_t : (bz true).toInt = 1 := rfl
  have q_f : (bz false).toInt = 0 := rfl
  have q_36 : (36 : Int32).toInt = 36 := rfl
  have q_66 : (66 : Int32).toInt = 66 := rfl
  have q_92 : (92 : Int32).toInt = 92 := rfl
  have q_94 : (94 : Int32).toInt = 94 := rfl
  have q_98 : (98 : Int32).toInt = 98 := rfl
  unfold w_X4_writeEdge
  have j_54 : ∀ (v_row_count_54 : Int32) (v_row_over_54 : Bool) (v_row_items_54 : Nat → Int32), 0 ≤ v_row_count_54.toInt → v_row_count_54.toInt ≤ (nv_row_items : Int) → v_row_count.toInt ≤ v_row_count_54.toInt → ((p1.toInt ≤ 1 ∧ v_row_count.toInt ≤ v_row_count_54.toInt) ∨ (2 ≤ p1.toInt)) → w_X4_writeEdge_54 Q v_row_count_54 v_row_over_54 v_row_items_54 := by
    intro v_row_count_54 v_row_over_54 v_row_items_54 f1 f2 f3 f4
    unfold w_X4_writeEdge_54
    exact hq v_row_count_54 v_row_over_54 v_row_items_54 (by omega) (by omega) (by omega) (by omega)
  refine ⟨fun c2 => ?_, fun c2 => ?_⟩
  · have f5 : 2 ≤ p1.toInt := i_le (a := 2) (b := p1.toInt) rfl rfl c2
    refine ok_X7_add (by omega) (by omega) (by omega) (fun r32_0 r32_1 r32_2 f6 f7 f8 f9 => ?_)
    have j_51 : ∀ (s0_51 : Int32), ((s0_51.toInt = 66) ∨ (s0_51.toInt = 98 ∧ p1.toInt = 2)) → w_X4_writeEdge_51 nv_row_items Q s0_51 r32_0 r32_1 r32_2 := by
      intro s0_51 f10
      unfold w_X4_writeEdge_51
      refine ok_X7_add (by omega) (by omega) (by omega) (fun r51_0 r51_1 r51_2 f11 f12 f13 f14 => ?_)
      exact j_54 r51_0 r51_1 r51_2 (by omega) (by omega) (by omega) (by omega)
    refine ⟨fun c41 => ?_, fun c41 => ?_⟩
    · have f15 : p1.toInt ≠ 2 := i_ne (a := p1.toInt) (b := 2) rfl rfl c41
      exact j_51 66 (by omega)
    · have f16 : p1.toInt = 2 := i_eq (a := p1.toInt) (b := 2) rfl rfl c41
      exact j_51 98 (by omega)
  · have f17 : p1.toInt < 2 := i_nle (a := 2) (b := p1.toInt) rfl rfl c2
    have j_20 : ∀ (s0_20 : Int32), ((s0_20.toInt = 36) ∨ (s0_20.toInt = 94 ∧ p1.toInt = 0)) → w_X4_writeEdge_20 nv_row_items Q s0_20 v_row_count v_row_over v_row_items := by
      intro s0_20 f18
      unfold w_X4_writeEdge_20
      refine ok_X7_add (by omega) (by omega) (by omega) (fun r20_0 r20_1 r20_2 f19 f20 f21 f22 => ?_)
      exact j_54 r20_0 r20_1 r20_2 (by omega) (by omega) (by omega) (by omega)
    refine ⟨fun c10 => ?_, fun c10 => ?_⟩
    · have f23 : p1.toInt ≠ 0 := i_ne (a := p1.toInt) (b := 0) rfl rfl c10
      exact j_20 36 (by omega)
    · have f24 : p1.toInt = 0 := i_eq (a := p1.toInt) (b := 0) rfl rfl c10
      exact j_20 94 (by omega)
set_option maxHeartbeats 4000000 in
theorem ok_X4_writeCode {p1 : Int32} {v_row_count : Int32} {v_row_over : Bool} {v_row_items : Nat → Int32} {nv_row_items : Nat} {Q : Int32 → Bool → (Nat → Int32) → Prop} (a0 : 0 ≤ v_row_count.toInt) (a1 : v_row_count.toInt ≤ (nv_row_items : Int)) (a2 : (nv_row_items : Int) ≤ 1000) (hq : ∀ (ov_row_count : Int32) (ov_row_over : Bool) (ov_row_items : Nat → Int32), 0 ≤ ov_row_count.toInt + 1 → 0 ≤ ov_row_count.toInt → ov_row_count.toInt ≤ 1000 → ov_row_count.toInt ≤ (nv_row_items : Int) → v_row_count.toInt ≤ ov_row_count.toInt → Q ov_row_count ov_row_over ov_row_items) : w_X4_writeCode p1 v_row_count v_row_over v_row_items nv_row_items Q := by
  have q_t : (bz true).toInt = 1 := rfl
  have q_f : (bz false).toInt = 0 := rfl
  have q_12 : (12 : Int32).toInt = 12 := rfl
  have q_92 : (92 : Int32).toInt = 92 := rfl
  have q_120 : (120 : Int32).toInt = 120 := rfl
  unfold w_X4_writeCode
  refine ok_X7_add (by omega) (by omega) (by omega) (fun r6_0 r6_1 r6_2 f1 f2 f3 f4 => ?_)
  refine ok_X7_add (by omega) (by omega) (by omega) (fun r15_0 r15_1 r15_2 f5 f6 f7 f8 => ?_)
  have j_21 : ∀ n_21 : Nat, ∀ (l2_21 : Int32) (v_row_count_21 : Int32) (v_row_over_21 : Bool) (v_row_items_21 : Nat → Int32), l2_21.toInt ≤ 12 → r15_0.toInt ≤ v_row_count_21.toInt → v_row_count_21.toInt ≤ (nv_row_items : Int) → (l2_21.toInt + 2147483649).toNat < n_21 → w_X4_writeCode_21 p1 nv_row_items Q n_21 l2_21 v_row_count_21 v_row_over_21 v_row_items_21 := by
    intro n_21
    induction n_21 with
    | zero =>
      intro l2_21 v_row_count_21 v_row_over_21 v_row_items_21 f9 f10 f11 hm_21
      exfalso; omega
    | succ n_21 ih_21 =>
      intro l2_21 v_row_count_21 v_row_over_21 v_row_items_21 f9 f10 f11 hm_21
      unfold w_X4_writeCode_21
      unfold w_X4_writeCode_21B
      refine ⟨fun c22 => ?_, fun c22 => ?_⟩
      · have f12 : l2_21.toInt < 0 := i_lt (a := l2_21.toInt) (b := 0) rfl rfl c22
        exact hq v_row_count_21 v_row_over_21 v_row_items_21 (by omega) (by omega) (by omega) (by omega) (by omega)
      · have f13 : 0 ≤ l2_21.toInt := i_nlt (a := l2_21.toInt) (b := 0) rfl rfl c22
        intro x27 ex27
        intro x30 ex30
        have f14 : (0 ≤ x30.toInt ∧ x30.toInt ≤ 15) := i_andr ex30 (by decide)
        have j_56 : ∀ (s0_56 : Int32), ((10 ≤ x30.toInt ∧ s0_56.toInt = x30.toInt + 87) ∨ (x30.toInt ≤ 9 ∧ s0_56.toInt = x30.toInt + 48)) → w_X4_writeCode_56 nv_row_items Q (w_X4_writeCode_21 p1 nv_row_items Q n_21) s0_56 l2_21 v_row_count_21 v_row_over_21 v_row_items_21 := by
          intro s0_56 f15
          unfold w_X4_writeCode_56
          refine ok_X7_add (by omega) (by omega) (by omega) (fun r56_0 r56_1 r56_2 f16 f17 f18 f19 => ?_)
          intro x59 ex59
          have f20 : x59.toInt = l2_21.toInt + (-4) := i_add (a := l2_21.toInt) (b := (-4)) ex59 rfl rfl (by omega) (by omega)
          exact ih_21 x59 r56_0 r56_1 r56_2 (by omega) (by omega) (by omega) (by have h8_0 := i_rng l2_21; have h8_1 := i_rng x59; omega)
        refine ⟨fun c39 => ?_, fun c39 => ?_⟩
        · have f21 : 10 ≤ x30.toInt := i_le (a := 10) (b := x30.toInt) rfl rfl c39
          intro x52 ex52
          have f22 : x52.toInt = 97 + x30.toInt := i_add (a := 97) (b := x30.toInt) ex52 rfl rfl (by omega) (by omega)
          intro x55 ex55
          have f23 : x55.toInt = x52.toInt - 10 := i_sub (a := x52.toInt) (b := 10) ex55 rfl rfl (by omega) (by omega)
          exact j_56 x55 (by omega)
        · have f24 : x30.toInt < 10 := i_nle (a := 10) (b := x30.toInt) rfl rfl c39
          intro x45 ex45
          have f25 : x45.toInt = 48 + x30.toInt := i_add (a := 48) (b := x30.toInt) ex45 rfl rfl (by omega) (by omega)
          exact j_56 x45 (by omega)
  exact ⟨(2147483661 : Int).toNat + 1, j_21   ((2147483661 : Int).toNat + 1) 12 r15_0 r15_1 r15_2 (by omega) (by omega) (by omega) (by omega)⟩
set_option maxHeartbeats 4000000 in
theorem ok_X11_isTapeSign {p0 : Int32} {Q : Int32 → Prop} (hq : ∀ (r : Int32), ((r.toInt = 1 ∧ 32 ≤ p0.toInt ∧ p0.toInt ≤ 126) ∨ (r.toInt = 0)) → Q r) : w_X11_isTapeSign p0 Q := by
  have q_t : (bz true).toInt = 1 := rfl
  have q_f : (bz false).toInt = 0 := rfl
  have q_0 : (0 : Int32).toInt = 0 := rfl
  have q_1 : (1 : Int32).toInt = 1 := rfl
  unfold w_X11_isTapeSign
  have j_17 : ∀ (s0_17 : Int32), ((s0_17.toInt = 1 ∧ 32 ≤ p0.toInt ∧ p0.toInt ≤ 126) ∨ (s0_17.toInt = 0)) → w_X11_isTapeSign_17 Q s0_17 := by
    intro s0_17 f1
    unfold w_X11_isTapeSign_17
    refine ⟨i_01 (by omega) (by omega), ?_⟩
    exact hq s0_17 (by omega)
  have j_16 : ((p0.toInt ≤ 31) ∨ (32 ≤ p0.toInt ∧ 127 ≤ p0.toInt)) → w_X11_isTapeSign_16 Q := by
    intro f2
    unfold w_X11_isTapeSign_16
    exact j_17 0 (by omega)
  refine ⟨fun c3 => ?_, fun c3 => ?_⟩
  · have f3 : p0.toInt < 32 := i_lt (a := p0.toInt) (b := 32) rfl rfl c3
    exact j_16  (by omega)
  · have f4 : 32 ≤ p0.toInt := i_nlt (a := p0.toInt) (b := 32) rfl rfl c3
    refine ⟨fun c9 => ?_, fun c9 => ?_⟩
    · have f5 : 126 < p0.toInt := i_lt (a := 126) (b := p0.toInt) rfl rfl c9
      exact j_16  (by omega)
    · have f6 : p0.toInt ≤ 126 := i_nlt (a := 126) (b := p0.toInt) rfl rfl c9
      exact j_17 1 (by omega)
set_option maxHeartbeats 4000000 in
theorem ok_X4_writeMember {p1 : Int32} {v_row_count : Int32} {v_row_over : Bool} {v_row_items : Nat → Int32} {nv_row_items : Nat} {Q : Int32 → Bool → (Nat → Int32) → Prop} (a0 : 0 ≤ v_row_count.toInt) (a1 : v_row_count.toInt ≤ (nv_row_items : Int)) (a2 : (nv_row_items : Int) ≤ 1000) (hq : ∀ (ov_row_count : Int32) (ov_row_over : Bool) (ov_row_items : Nat → Int32), 0 ≤ ov_row_count.toInt → ov_row_count.toInt ≤ (nv_row_items : Int) → v_row_count.toInt ≤ ov_row_count.toInt → Q ov_row_count ov_row_over ov_row_items) : w_X4_writeMember p1 v_row_count v_row_over v_row_items nv_row_items Q := by
  have q_t : (bz true).toInt = 1 := rfl
  have q_f : (bz false).toInt = 0 := rfl
  have q_92 : (92 : Int32).toInt = 92 := rfl
  unfold w_X4_writeMember
  refine ok_X11_isTapeSign  (fun r1 f1 => ?_)
  refine ⟨fun c4 => ?_, fun c4 => ?_⟩
  · have f2 : r1.toInt ≠ 0 := i_ne (a := r1.toInt) (b := 0) rfl rfl c4
    have j_52 : ∀ (v_row_count_52 : Int32) (v_row_over_52 : Bool) (v_row_items_52 : Nat → Int32), 0 ≤ v_row_count_52.toInt → v_row_count_52.toInt ≤ (nv_row_items : Int) → v_row_count.toInt ≤ v_row_count_52.toInt → ((v_row_count_52.toInt = v_row_count.toInt) ∨ (0 ≤ v_row_count_52.toInt ∧ v_row_count_52.toInt ≤ (nv_row_items : Int) ∧ v_row_count.toInt ≤ v_row_count_52.toInt)) → w_X4_writeMember_52 p1 nv_row_items Q v_row_count_52 v_row_over_52 v_row_items_52 := by
      intro v_row_count_52 v_row_over_52 v_row_items_52 f3 f4 f5 f6
      unfold w_X4_writeMember_52
      refine ok_X7_add (by omega) (by omega) (by omega) (fun r57_0 r57_1 r57_2 f7 f8 f9 f10 => ?_)
      exact hq r57_0 r57_1 r57_2 (by omega) (by omega) (by omega)
    have j_43 : w_X4_writeMember_43 p1 nv_row_items Q v_row_count v_row_over v_row_items := by
      unfold w_X4_writeMember_43
      refine ok_X7_add (by omega) (by omega) (by omega) (fun r49_0 r49_1 r49_2 f11 f12 f13 f14 => ?_)
      exact j_52 r49_0 r49_1 r49_2 (by omega) (by omega) (by omega) (by omega)
    refine ⟨fun c16 => ?_, fun c16 => ?_⟩
    · have f15 : p1.toInt = 91 := i_eq (a := p1.toInt) (b := 91) rfl rfl c16
      exact j_43  
    · have f16 : p1.toInt ≠ 91 := i_ne (a := p1.toInt) (b := 91) rfl rfl c16
      refine ⟨fun c22 => ?_, fun c22 => ?_⟩
      · have f17 : p1.toInt = 93 := i_eq (a := p1.toInt) (b := 93) rfl rfl c22
        exact j_43  
      · have f18 : p1.toInt ≠ 93 := i_ne (a := p1.toInt) (b := 93) rfl rfl c22
        refine ⟨fun c28 => ?_, fun c28 => ?_⟩
        · have f19 : p1.toInt = 94 := i_eq (a := p1.toInt) (b := 94) rfl rfl c28
          exact j_43  
        · have f20 : p1.toInt ≠ 94 := i_ne (a := p1.toInt) (b := 94) rfl rfl c28
          refine ⟨fun c34 => ?_, fun c34 => ?_⟩
          · have f21 : p1.toInt = 45 := i_eq (a := p1.toInt) (b := 45) rfl rfl c34
            exact j_43  
          · have f22 : p1.toInt ≠ 45 := i_ne (a := p1.toInt) (b := 45) rfl rfl c34
            refine ⟨fun c40 => ?_, fun c40 => ?_⟩
            · have f23 : p1.toInt ≠ 92 := i_ne (a := p1.toInt) (b := 92) rfl rfl c40
              exact j_52 v_row_count v_row_over v_row_items (by omega) (by omega) (by omega) (by omega)
            · have f24 : p1.toInt = 92 := i_eq (a := p1.toInt) (b := 92) rfl rfl c40
              exact j_43  
  · have f25 : r1.toInt = 0 := i_eq (a := r1.toInt) (b := 0) rfl rfl c4
    refine ok_X4_writeCode (by omega) (by omega) (by omega) (fun r9_0 r9_1 r9_2 f26 f27 f28 f29 f30 => ?_)
    exact hq r9_0 r9_1 r9_2 (by omega) (by omega) (by omega)
set_option maxHeartbeats 4000000 in
theorem ok_X4_writeSet {p2 : Int32} {v_row_count : Int32} {v_row_over : Bool} {v_row_items : Nat → Int32} {nv_row_items : Nat} {a1_count : Int32} {a1_ranges : Int32} {a1_sort : Nat → Int32} {a1_parts : Nat → Int32} {a1_value : Nat → Int32} {a1_low : Nat → Int32} {a1_high : Nat → Int32} {a1_rangeBegin : Nat → Int32} {a1_rangeEnd : Nat → Int32} {Q : Int32 → Bool → (Nat → Int32) → Prop} (a0 : 0 ≤ v_row_count.toInt) (a1 : v_row_count.toInt ≤ (nv_row_items : Int)) (a2 : (nv_row_items : Int) ≤ 1000) (a3 : 0 ≤ a1_count.toInt) (a4 : a1_count.toInt ≤ 256) (a5 : 0 ≤ a1_ranges.toInt) (a6 : a1_ranges.toInt ≤ 512) (hq : ∀ (ov_row_count : Int32) (ov_row_over : Bool) (ov_row_items : Nat → Int32), 0 ≤ ov_row_count.toInt → ov_row_count.toInt ≤ (nv_row_items : Int) → v_row_count.toInt ≤ ov_row_count.toInt → Q ov_row_count ov_row_over ov_row_items) : w_X4_writeSet p2 v_row_count v_row_over v_row_items nv_row_items a1_count a1_ranges a1_sort a1_parts a1_value a1_low a1_high a1_rangeBegin a1_rangeEnd Q := by
  have q_t : (bz true).toInt = 1 := rfl
  have q_f : (bz false).toInt = 0 := rfl
  have q_0 : (0 : Int32).toInt = 0 := rfl
  have q_45 : (45 : Int32).toInt = 45 := rfl
  have q_91 : (91 : Int32).toInt = 91 := rfl
  have q_93 : (93 : Int32).toInt = 93 := rfl
  have q_94 : (94 : Int32).toInt = 94 := rfl
  unfold w_X4_writeSet
  refine ok_X7_add (by omega) (by omega) (by omega) (fun r6_0 r6_1 r6_2 f1 f2 f3 f4 => ?_)
  refine ok_X10_valueOf (by omega) (by omega) (fun r11 f5 => ?_)
  have j_26 : ∀ (v_row_count_26 : Int32) (v_row_over_26 : Bool) (v_row_items_26 : Nat → Int32), 0 ≤ v_row_count_26.toInt → v_row_count_26.toInt ≤ (nv_row_items : Int) → v_row_count.toInt ≤ v_row_count_26.toInt → ((v_row_count_26.toInt = r6_0.toInt ∧ r11.toInt = 0) ∨ (0 ≤ v_row_count_26.toInt ∧ v_row_count_26.toInt ≤ (nv_row_items : Int) ∧ r6_0.toInt ≤ v_row_count_26.toInt)) → w_X4_writeSet_26 p2 nv_row_items a1_count a1_ranges a1_sort a1_parts a1_low a1_high a1_rangeBegin a1_rangeEnd Q v_row_count_26 v_row_over_26 v_row_items_26 := by
    intro v_row_count_26 v_row_over_26 v_row_items_26 f6 f7 f8 f9
    unfold w_X4_writeSet_26
    have j_28 : ∀ n_28 : Nat, ∀ (l3_28 : Int32) (v_row_count_28 : Int32) (v_row_over_28 : Bool) (v_row_items_28 : Nat → Int32), 0 ≤ l3_28.toInt → v_row_count_26.toInt ≤ v_row_count_28.toInt → v_row_count_28.toInt ≤ (nv_row_items : Int) → ((-1) * l3_28.toInt + 2147483648).toNat < n_28 → w_X4_writeSet_28 p2 nv_row_items a1_count a1_ranges a1_sort a1_parts a1_low a1_high a1_rangeBegin a1_rangeEnd Q n_28 l3_28 v_row_count_28 v_row_over_28 v_row_items_28 := by
      intro n_28
      induction n_28 with
      | zero =>
        intro l3_28 v_row_count_28 v_row_over_28 v_row_items_28 f10 f11 f12 hm_28
        exfalso; omega
      | succ n_28 ih_28 =>
        intro l3_28 v_row_count_28 v_row_over_28 v_row_items_28 f10 f11 f12 hm_28
        unfold w_X4_writeSet_28
        unfold w_X4_writeSet_28B
        refine ok_X10_partsOf (by omega) (by omega) (fun r31 f13 => ?_)
        refine ⟨fun c34 => ?_, fun c34 => ?_⟩
        · have f14 : r31.toInt ≤ l3_28.toInt := i_le (a := r31.toInt) (b := l3_28.toInt) rfl rfl c34
          refine ok_X7_add (by omega) (by omega) (by omega) (fun r93_0 r93_1 r93_2 f15 f16 f17 f18 => ?_)
          exact hq r93_0 r93_1 r93_2 (by omega) (by omega) (by omega)
        · have f19 : l3_28.toInt < r31.toInt := i_nle (a := r31.toInt) (b := l3_28.toInt) rfl rfl c34
          refine ok_X10_partBegin (by omega) (by omega) (by omega) (by omega) (fun r41 => ?_)
          refine ok_X4_writeMember (by omega) (by omega) (by omega) (fun r44_0 r44_1 r44_2 f20 f21 f22 => ?_)
          refine ok_X10_partEnd (by omega) (by omega) (by omega) (by omega) (fun r50 => ?_)
          refine ok_X10_partBegin (by omega) (by omega) (by omega) (by omega) (fun r56 => ?_)
          have j_81 : ∀ (v_row_count_81 : Int32) (v_row_over_81 : Bool) (v_row_items_81 : Nat → Int32), 0 ≤ v_row_count_81.toInt → v_row_count_81.toInt ≤ (nv_row_items : Int) → v_row_count.toInt ≤ v_row_count_81.toInt → v_row_count_28.toInt ≤ v_row_count_81.toInt → ((v_row_count_81.toInt = r44_0.toInt) ∨ (0 ≤ v_row_count_81.toInt ∧ v_row_count_81.toInt ≤ (nv_row_items : Int))) → w_X4_writeSet_81 Q (w_X4_writeSet_28 p2 nv_row_items a1_count a1_ranges a1_sort a1_parts a1_low a1_high a1_rangeBegin a1_rangeEnd Q n_28) l3_28 v_row_count_81 v_row_over_81 v_row_items_81 := by
            intro v_row_count_81 v_row_over_81 v_row_items_81 f23 f24 f25 f26 f27
            unfold w_X4_writeSet_81
            intro x81 ex81
            have f28 : x81.toInt = l3_28.toInt + 1 := i_add (a := l3_28.toInt) (b := 1) ex81 rfl rfl (by omega) (by have h8_1 := i_rng a1_count; have h8_2 := i_rng l3_28; have h8_3 := i_rng p2; have h8_4 := i_rng r11; have h8_5 := i_rng r31; have h8_6 := i_rng r44_0; have h8_7 := i_rng r6_0; have h8_8 := i_rng v_row_count; have h8_9 := i_rng v_row_count_26; have h8_10 := i_rng v_row_count_28; have h8_11 := i_rng v_row_count_81; omega)
            exact ih_28 x81 v_row_count_81 v_row_over_81 v_row_items_81 (by omega) (by omega) (by omega) (by have h8_0 := i_rng l3_28; have h8_1 := i_rng x81; omega)
          refine ⟨fun c59 => ?_, fun c59 => ?_⟩
          · have f29 : r50.toInt = r56.toInt := i_eq (a := r50.toInt) (b := r56.toInt) rfl rfl c59
            exact j_81 r44_0 r44_1 r44_2 (by omega) (by omega) (by omega) (by omega) (by omega)
          · have f30 : r50.toInt ≠ r56.toInt := i_ne (a := r50.toInt) (b := r56.toInt) rfl rfl c59
            refine ok_X7_add (by omega) (by omega) (by omega) (fun r68_0 r68_1 r68_2 f31 f32 f33 f34 => ?_)
            refine ok_X10_partEnd (by omega) (by omega) (by omega) (by omega) (fun r75 => ?_)
            refine ok_X4_writeMember (by omega) (by omega) (by omega) (fun r78_0 r78_1 r78_2 f35 f36 f37 => ?_)
            exact j_81 r78_0 r78_1 r78_2 (by omega) (by omega) (by omega) (by omega) (by omega)
    exact ⟨(2147483648 : Int).toNat + 1, j_28   ((2147483648 : Int).toNat + 1) 0 v_row_count_26 v_row_over_26 v_row_items_26 (by omega) (by omega) (by omega) (by omega)⟩
  refine ⟨fun c14 => ?_, fun c14 => ?_⟩
  · have f38 : r11.toInt = 0 := i_eq (a := r11.toInt) (b := 0) rfl rfl c14
    exact j_26 r6_0 r6_1 r6_2 (by omega) (by omega) (by omega) (by omega)
  · have f39 : r11.toInt ≠ 0 := i_ne (a := r11.toInt) (b := 0) rfl rfl c14
    refine ok_X7_add (by omega) (by omega) (by omega) (fun r23_0 r23_1 r23_2 f40 f41 f42 f43 => ?_)
    exact j_26 r23_0 r23_1 r23_2 (by omega) (by omega) (by omega) (by omega)
set_option maxHeartbeats 4000000 in
theorem ok_X11_isPlain {p0 : Int32} {Q : Int32 → Prop} (hq : ∀ (r : Int32), 0 ≤ r.toInt → r.toInt ≤ 1 → Q r) : w_X11_isPlain p0 Q := by
  have q_t : (bz true).toInt = 1 := rfl
  have q_f : (bz false).toInt = 0 := rfl
  have q_0 : (0 : Int32).toInt = 0 := rfl
  unfold w_X11_isPlain
  have j_124 : w_X11_isPlain_124 Q := by
    unfold w_X11_isPlain_124
    exact hq 0 (by omega) (by omega)
  refine ⟨fun c1_0 => ?_, fun c1_1 => ?_, fun c1_2 => ?_, fun c1_3 => ?_, fun c1_4 => ?_, fun c1_5 => ?_, fun c1_6 => ?_, fun c1_7 => ?_, fun c1_8 => ?_, fun c1_9 => ?_, fun c1_10 => ?_, fun c1_11 => ?_, fun c1_12 => ?_, fun c1_13 => ?_, ?_⟩
  · have f1 : p0.toInt = 36 := i_eq (a := p0.toInt) (b := 36) rfl rfl c1_0
    exact j_124  
  · have f2 : p0.toInt = 40 := i_eq (a := p0.toInt) (b := 40) rfl rfl c1_1
    exact j_124  
  · have f3 : p0.toInt = 41 := i_eq (a := p0.toInt) (b := 41) rfl rfl c1_2
    exact j_124  
  · have f4 : p0.toInt = 42 := i_eq (a := p0.toInt) (b := 42) rfl rfl c1_3
    exact j_124  
  · have f5 : p0.toInt = 43 := i_eq (a := p0.toInt) (b := 43) rfl rfl c1_4
    exact j_124  
  · have f6 : p0.toInt = 46 := i_eq (a := p0.toInt) (b := 46) rfl rfl c1_5
    exact j_124  
  · have f7 : p0.toInt = 63 := i_eq (a := p0.toInt) (b := 63) rfl rfl c1_6
    exact j_124  
  · have f8 : p0.toInt = 91 := i_eq (a := p0.toInt) (b := 91) rfl rfl c1_7
    exact j_124  
  · have f9 : p0.toInt = 92 := i_eq (a := p0.toInt) (b := 92) rfl rfl c1_8
    exact j_124  
  · have f10 : p0.toInt = 93 := i_eq (a := p0.toInt) (b := 93) rfl rfl c1_9
    exact j_124  
  · have f11 : p0.toInt = 94 := i_eq (a := p0.toInt) (b := 94) rfl rfl c1_10
    exact j_124  
  · have f12 : p0.toInt = 123 := i_eq (a := p0.toInt) (b := 123) rfl rfl c1_11
    exact j_124  
  · have f13 : p0.toInt = 124 := i_eq (a := p0.toInt) (b := 124) rfl rfl c1_12
    exact j_124  
  · have f14 : p0.toInt = 125 := i_eq (a := p0.toInt) (b := 125) rfl rfl c1_13
    exact j_124  
  · intro c1_0 c1_1 c1_2 c1_3 c1_4 c1_5 c1_6 c1_7 c1_8 c1_9 c1_10 c1_11 c1_12 c1_13
    have f15 : p0.toInt ≠ 36 := i_ne (a := p0.toInt) (b := 36) rfl rfl c1_0
    have f16 : p0.toInt ≠ 40 := i_ne (a := p0.toInt) (b := 40) rfl rfl c1_1
    have f17 : p0.toInt ≠ 41 := i_ne (a := p0.toInt) (b := 41) rfl rfl c1_2
    have f18 : p0.toInt ≠ 42 := i_ne (a := p0.toInt) (b := 42) rfl rfl c1_3
    have f19 : p0.toInt ≠ 43 := i_ne (a := p0.toInt) (b := 43) rfl rfl c1_4
    have f20 : p0.toInt ≠ 46 := i_ne (a := p0.toInt) (b := 46) rfl rfl c1_5
    have f21 : p0.toInt ≠ 63 := i_ne (a := p0.toInt) (b := 63) rfl rfl c1_6
    have f22 : p0.toInt ≠ 91 := i_ne (a := p0.toInt) (b := 91) rfl rfl c1_7
    have f23 : p0.toInt ≠ 92 := i_ne (a := p0.toInt) (b := 92) rfl rfl c1_8
    have f24 : p0.toInt ≠ 93 := i_ne (a := p0.toInt) (b := 93) rfl rfl c1_9
    have f25 : p0.toInt ≠ 94 := i_ne (a := p0.toInt) (b := 94) rfl rfl c1_10
    have f26 : p0.toInt ≠ 123 := i_ne (a := p0.toInt) (b := 123) rfl rfl c1_11
    have f27 : p0.toInt ≠ 124 := i_ne (a := p0.toInt) (b := 124) rfl rfl c1_12
    have f28 : p0.toInt ≠ 125 := i_ne (a := p0.toInt) (b := 125) rfl rfl c1_13
    refine ok_X11_isTapeSign  (fun r127 f29 => ?_)
    refine ⟨i_01 (by omega) (by omega), ?_⟩
    exact hq r127 (by omega) (by omega)

set_option maxHeartbeats 4000000 in
theorem ok_X4_writeSign {p1 : Int32} {v_row_count : Int32} {v_row_over : Bool} {v_row_items : Nat → Int32} {nv_row_items : Nat} {v_behindOpening : Int32} {Q : Int32 → Bool → (Nat → Int32) → Prop} (a0 : 0 ≤ v_row_count.toInt) (a1 : v_row_count.toInt ≤ (nv_row_items : Int)) (a2 : (nv_row_items : Int) ≤ 1000) (hq : ∀ (ov_row_count : Int32) (ov_row_over : Bool) (ov_row_items : Nat → Int32), 0 ≤ ov_row_count.toInt → ov_row_count.toInt ≤ (nv_row_items : Int) → v_row_count.toInt ≤ ov_row_count.toInt → Q ov_row_count ov_row_over ov_row_items) : w_X4_writeSign p1 v_row_count v_row_over v_row_items nv_row_items v_behindOpening Q := by
  have q_t : (bz true).toInt = 1 := rfl
  have q_f : (bz false).toInt = 0 := rfl
  have q_92 : (92 : Int32).toInt = 92 := rfl
  unfold w_X4_writeSign
  refine ok_X11_isTapeSign  (fun r1 f1 => ?_)
  have j_28 : ((r1.toInt = 0) ∨ (v_row_count.toInt = v_behindOpening.toInt)) → w_X4_writeSign_28 p1 nv_row_items Q v_row_count v_row_over v_row_items := by
    intro f2
    unfold w_X4_writeSign_28
    refine ok_X4_writeCode (by omega) (by omega) (by omega) (fun r30_0 r30_1 r30_2 f3 f4 f5 f6 f7 => ?_)
    exact hq r30_0 r30_1 r30_2 (by omega) (by omega) (by omega)
  refine ⟨fun c4 => ?_, fun c4 => ?_⟩
  · have f8 : r1.toInt = 0 := i_eq (a := r1.toInt) (b := 0) rfl rfl c4
    exact j_28  (by omega)
  · have f9 : r1.toInt ≠ 0 := i_ne (a := r1.toInt) (b := 0) rfl rfl c4
    have j_34 : w_X4_writeSign_34 p1 nv_row_items Q v_row_count v_row_over v_row_items := by
      unfold w_X4_writeSign_34
      refine ok_X11_isPlain  (fun r35 f10 f11 => ?_)
      have j_50 : ∀ (v_row_count_50 : Int32) (v_row_over_50 : Bool) (v_row_items_50 : Nat → Int32), 0 ≤ v_row_count_50.toInt → v_row_count_50.toInt ≤ (nv_row_items : Int) → v_row_count.toInt ≤ v_row_count_50.toInt → ((v_row_count_50.toInt = v_row_count.toInt) ∨ (r35.toInt = 0 ∧ 0 ≤ v_row_count_50.toInt ∧ v_row_count_50.toInt ≤ (nv_row_items : Int) ∧ v_row_count.toInt ≤ v_row_count_50.toInt)) → w_X4_writeSign_50 p1 nv_row_items Q v_row_count_50 v_row_over_50 v_row_items_50 := by
        intro v_row_count_50 v_row_over_50 v_row_items_50 f12 f13 f14 f15
        unfold w_X4_writeSign_50
        refine ok_X7_add (by omega) (by omega) (by omega) (fun r55_0 r55_1 r55_2 f16 f17 f18 f19 => ?_)
        exact hq r55_0 r55_1 r55_2 (by omega) (by omega) (by omega)
      refine ⟨fun c38 => ?_, fun c38 => ?_⟩
      · have f20 : r35.toInt ≠ 0 := i_ne (a := r35.toInt) (b := 0) rfl rfl c38
        exact j_50 v_row_count v_row_over v_row_items (by omega) (by omega) (by omega) (by omega)
      · have f21 : r35.toInt = 0 := i_eq (a := r35.toInt) (b := 0) rfl rfl c38
        refine ok_X7_add (by omega) (by omega) (by omega) (fun r47_0 r47_1 r47_2 f22 f23 f24 f25 => ?_)
        exact j_50 r47_0 r47_1 r47_2 (by omega) (by omega) (by omega) (by omega)
    refine ⟨fun c18 => ?_, fun c18 => ?_⟩
    · have f26 : v_row_count.toInt ≠ v_behindOpening.toInt := i_ne (a := v_row_count.toInt) (b := v_behindOpening.toInt) rfl rfl c18
      exact j_34  
    · have f27 : v_row_count.toInt = v_behindOpening.toInt := i_eq (a := v_row_count.toInt) (b := v_behindOpening.toInt) rfl rfl c18
      refine ok_X4_isMark  (fun r22 f28 => ?_)
      refine ⟨fun c25 => ?_, fun c25 => ?_⟩
      · have f29 : r22.toInt = 0 := i_eq (a := r22.toInt) (b := 0) rfl rfl c25
        exact j_34  
      · have f30 : r22.toInt ≠ 0 := i_ne (a := r22.toInt) (b := 0) rfl rfl c25
        exact j_28  (by omega)
set_option maxHeartbeats 4000000 in
theorem ok_X4_writeLeaf {p2 : Int32} {v_row_count : Int32} {v_row_over : Bool} {v_row_items : Nat → Int32} {nv_row_items : Nat} {v_behindOpening : Int32} {a1_count : Int32} {a1_ranges : Int32} {a1_sort : Nat → Int32} {a1_parts : Nat → Int32} {a1_value : Nat → Int32} {a1_low : Nat → Int32} {a1_high : Nat → Int32} {a1_rangeBegin : Nat → Int32} {a1_rangeEnd : Nat → Int32} {Q : Int32 → Bool → (Nat → Int32) → Prop} (a0 : 0 ≤ v_row_count.toInt) (a1 : v_row_count.toInt ≤ (nv_row_items : Int)) (a2 : (nv_row_items : Int) ≤ 1000) (a3 : 0 ≤ a1_count.toInt) (a4 : a1_count.toInt ≤ 256) (a5 : 0 ≤ a1_ranges.toInt) (a6 : a1_ranges.toInt ≤ 512) (hq : ∀ (ov_row_count : Int32) (ov_row_over : Bool) (ov_row_items : Nat → Int32), 0 ≤ ov_row_count.toInt → ov_row_count.toInt ≤ (nv_row_items : Int) → v_row_count.toInt ≤ ov_row_count.toInt → Q ov_row_count ov_row_over ov_row_items) : w_X4_writeLeaf p2 v_row_count v_row_over v_row_items nv_row_items v_behindOpening a1_count a1_ranges a1_sort a1_parts a1_value a1_low a1_high a1_rangeBegin a1_rangeEnd Q := by
  have q_t : (bz true).toInt = 1 := rfl
  have q_f : (bz false).toInt = 0 := rfl
  have q_46 : (46 : Int32).toInt = 46 := rfl
  have q_92 : (92 : Int32).toInt = 92 := rfl
  unfold w_X4_writeLeaf
  refine ok_X10_valueOf (by omega) (by omega) (fun r2 f1 => ?_)
  refine ok_X10_sortOf (by omega) (by omega) (fun r8 f2 => ?_)
  have j_97 : ∀ (v_row_count_97 : Int32) (v_row_over_97 : Bool) (v_row_items_97 : Nat → Int32), 0 ≤ v_row_count_97.toInt → v_row_count_97.toInt ≤ (nv_row_items : Int) → v_row_count.toInt ≤ v_row_count_97.toInt → w_X4_writeLeaf_97 Q v_row_count_97 v_row_over_97 v_row_items_97 := by
    intro v_row_count_97 v_row_over_97 v_row_items_97 f3 f4 f5
    unfold w_X4_writeLeaf_97
    exact hq v_row_count_97 v_row_over_97 v_row_items_97 (by omega) (by omega) (by omega)
  refine ⟨fun c11_0 => ?_, fun c11_1 => ?_, fun c11_2 => ?_, fun c11_3 => ?_, ?_⟩
  · have f6 : r8.toInt = 0 := i_eq (a := r8.toInt) (b := 0) rfl rfl c11_0
    refine ok_X4_writeSign (by omega) (by omega) (by omega) (fun r42_0 r42_1 r42_2 f7 f8 f9 => ?_)
    exact j_97 r42_0 r42_1 r42_2 (by omega) (by omega) (by omega)
  · have f10 : r8.toInt = 1 := i_eq (a := r8.toInt) (b := 1) rfl rfl c11_1
    refine ok_X7_add (by omega) (by omega) (by omega) (fun r54_0 r54_1 r54_2 f11 f12 f13 f14 => ?_)
    exact j_97 r54_0 r54_1 r54_2 (by omega) (by omega) (by omega)
  · have f15 : r8.toInt = 2 := i_eq (a := r8.toInt) (b := 2) rfl rfl c11_2
    refine ok_X4_writeSet (by omega) (by omega) (by omega) (by omega) (by omega) (by omega) (by omega) (fun r63_0 r63_1 r63_2 f16 f17 f18 => ?_)
    exact j_97 r63_0 r63_1 r63_2 (by omega) (by omega) (by omega)
  · have f19 : r8.toInt = 3 := i_eq (a := r8.toInt) (b := 3) rfl rfl c11_3
    refine ok_X4_writeEdge (by omega) (by omega) (by omega) (fun r71_0 r71_1 r71_2 f20 f21 f22 f23 => ?_)
    exact j_97 r71_0 r71_1 r71_2 (by omega) (by omega) (by omega)
  · intro c11_0 c11_1 c11_2 c11_3
    have f24 : r8.toInt ≠ 0 := i_ne (a := r8.toInt) (b := 0) rfl rfl c11_0
    have f25 : r8.toInt ≠ 1 := i_ne (a := r8.toInt) (b := 1) rfl rfl c11_1
    have f26 : r8.toInt ≠ 2 := i_ne (a := r8.toInt) (b := 2) rfl rfl c11_2
    have f27 : r8.toInt ≠ 3 := i_ne (a := r8.toInt) (b := 3) rfl rfl c11_3
    refine ok_X7_add (by omega) (by omega) (by omega) (fun r83_0 r83_1 r83_2 f28 f29 f30 f31 => ?_)
    intro x93 ex93
    refine ok_X7_add (by omega) (by omega) (by omega) (fun r94_0 r94_1 r94_2 f32 f33 f34 f35 => ?_)
    exact j_97 r94_0 r94_1 r94_2 (by omega) (by omega) (by omega)
set_option maxHeartbeats 4000000 in
theorem ok_X4_writeOpening {p2 : Int32} {v_row_count : Int32} {v_row_over : Bool} {v_row_items : Nat → Int32} {nv_row_items : Nat} {v_behindOpening : Int32} {a1_count : Int32} {a1_sort : Nat → Int32} {a1_value : Nat → Int32} {a1_low : Nat → Int32} {Q : Int32 → Bool → (Nat → Int32) → Int32 → Prop} (a0 : 0 ≤ v_row_count.toInt) (a1 : v_row_count.toInt ≤ (nv_row_items : Int)) (a2 : (nv_row_items : Int) ≤ 1000) (a3 : 0 ≤ a1_count.toInt) (a4 : a1_count.toInt ≤ 256) (hq : ∀ (ov_row_count : Int32) (ov_row_over : Bool) (ov_row_items : Nat → Int32) (ov_behindOpening : Int32), 0 ≤ ov_row_count.toInt → ov_row_count.toInt ≤ (nv_row_items : Int) → v_row_count.toInt ≤ ov_row_count.toInt → Q ov_row_count ov_row_over ov_row_items ov_behindOpening) : w_X4_writeOpening p2 v_row_count v_row_over v_row_items nv_row_items v_behindOpening a1_count a1_sort a1_value a1_low Q := by
  have q_t : (bz true).toInt = 1 := rfl
  have q_f : (bz false).toInt = 0 := rfl
  have q_37 : (37 : Int32).toInt = 37 := rfl
  have q_40 : (40 : Int32).toInt = 40 := rfl
  have q_42 : (42 : Int32).toInt = 42 := rfl
  have q_64 : (64 : Int32).toInt = 64 := rfl
  unfold w_X4_writeOpening
  refine ok_X10_sortOf (by omega) (by omega) (fun r2 f1 => ?_)
  have j_160 : ∀ (v_row_count_160 : Int32) (v_row_over_160 : Bool) (v_row_items_160 : Nat → Int32) (v_behindOpening_160 : Int32), 0 ≤ v_row_count_160.toInt → v_row_count_160.toInt ≤ (nv_row_items : Int) → v_row_count.toInt ≤ v_row_count_160.toInt → w_X4_writeOpening_160 Q v_row_count_160 v_row_over_160 v_row_items_160 v_behindOpening_160 := by
    intro v_row_count_160 v_row_over_160 v_row_items_160 v_behindOpening_160 f2 f3 f4
    unfold w_X4_writeOpening_160
    exact hq v_row_count_160 v_row_over_160 v_row_items_160 v_behindOpening_160 (by omega) (by omega) (by omega)
  refine ⟨fun c5_0 => ?_, fun c5_1 => ?_, fun c5_2 => ?_, fun c5_3 => ?_, ?_⟩
  · have f5 : r2.toInt = 8 := i_eq (a := r2.toInt) (b := 8) rfl rfl c5_0
    refine ok_X7_add (by omega) (by omega) (by omega) (fun r42_0 r42_1 r42_2 f6 f7 f8 f9 => ?_)
    refine ok_X10_lowOf (by omega) (by omega) (fun r47 f10 => ?_)
    refine ⟨fun c50 => ?_, fun c50 => ?_⟩
    · have f11 : r47.toInt = 0 := i_eq (a := r47.toInt) (b := 0) rfl rfl c50
      exact j_160 r42_0 r42_1 r42_2 r42_0 (by omega) (by omega) (by omega)
    · have f12 : r47.toInt ≠ 0 := i_ne (a := r47.toInt) (b := 0) rfl rfl c50
      refine ok_X7_add (by omega) (by omega) (by omega) (fun r59_0 r59_1 r59_2 f13 f14 f15 f16 => ?_)
      refine ok_X10_lowOf (by omega) (by omega) (fun r68 f17 => ?_)
      refine ok_X7_add (by omega) (by omega) (by omega) (fun r71_0 r71_1 r71_2 f18 f19 f20 f21 => ?_)
      exact j_160 r71_0 r71_1 r71_2 v_behindOpening (by omega) (by omega) (by omega)
  · have f22 : r2.toInt = 9 := i_eq (a := r2.toInt) (b := 9) rfl rfl c5_1
    refine ok_X7_add (by omega) (by omega) (by omega) (fun r97_0 r97_1 r97_2 f23 f24 f25 f26 => ?_)
    refine ok_X10_valueOf (by omega) (by omega) (fun r106 f27 => ?_)
    refine ok_X4_markOfLook  (fun r109 f28 f29 => ?_)
    refine ok_X7_add (by omega) (by omega) (by omega) (fun r112_0 r112_1 r112_2 f30 f31 f32 f33 => ?_)
    exact j_160 r112_0 r112_1 r112_2 v_behindOpening (by omega) (by omega) (by omega)
  · have f34 : r2.toInt = 10 := i_eq (a := r2.toInt) (b := 10) rfl rfl c5_2
    refine ok_X7_add (by omega) (by omega) (by omega) (fun r124_0 r124_1 r124_2 f35 f36 f37 f38 => ?_)
    refine ok_X7_add (by omega) (by omega) (by omega) (fun r133_0 r133_1 r133_2 f39 f40 f41 f42 => ?_)
    exact j_160 r133_0 r133_1 r133_2 v_behindOpening (by omega) (by omega) (by omega)
  · have f43 : r2.toInt = 11 := i_eq (a := r2.toInt) (b := 11) rfl rfl c5_3
    refine ok_X7_add (by omega) (by omega) (by omega) (fun r145_0 r145_1 r145_2 f44 f45 f46 f47 => ?_)
    refine ok_X7_add (by omega) (by omega) (by omega) (fun r154_0 r154_1 r154_2 f48 f49 f50 f51 => ?_)
    exact j_160 r154_0 r154_1 r154_2 v_behindOpening (by omega) (by omega) (by omega)
  · intro c5_0 c5_1 c5_2 c5_3
    have f52 : r2.toInt ≠ 8 := i_ne (a := r2.toInt) (b := 8) rfl rfl c5_0
    have f53 : r2.toInt ≠ 9 := i_ne (a := r2.toInt) (b := 9) rfl rfl c5_1
    have f54 : r2.toInt ≠ 10 := i_ne (a := r2.toInt) (b := 10) rfl rfl c5_2
    have f55 : r2.toInt ≠ 11 := i_ne (a := r2.toInt) (b := 11) rfl rfl c5_3
    exact j_160 v_row_count v_row_over v_row_items v_behindOpening (by omega) (by omega) (by omega)
set_option maxHeartbeats 4000000 in
theorem ok_X4_writeNumber {p1 : Int32} {v_row_count : Int32} {v_row_over : Bool} {v_row_items : Nat → Int32} {nv_row_items : Nat} {Q : Int32 → Bool → (Nat → Int32) → Prop} (a0 : 0 ≤ v_row_count.toInt) (a1 : v_row_count.toInt ≤ (nv_row_items : Int)) (a2 : (nv_row_items : Int) ≤ 1000) (hq : ∀ (ov_row_count : Int32) (ov_row_over : Bool) (ov_row_items : Nat → Int32), 0 ≤ ov_row_count.toInt → ov_row_count.toInt ≤ (nv_row_items : Int) → v_row_count.toInt ≤ ov_row_count.toInt → Q ov_row_count ov_row_over ov_row_items) : w_X4_writeNumber p1 v_row_count v_row_over v_row_items nv_row_items Q := by
  have q_t : (bz true).toInt = 1 := rfl
  have q_f : (bz false).toInt = 0 := rfl
  unfold w_X4_writeNumber
  have j_20 : ∀ (v_row_count_20 : Int32) (v_row_over_20 : Bool) (v_row_items_20 : Nat → Int32), 0 ≤ v_row_count_20.toInt → v_row_count_20.toInt ≤ (nv_row_items : Int) → v_row_count.toInt ≤ v_row_count_20.toInt → ((v_row_count_20.toInt = v_row_count.toInt ∧ p1.toInt ≤ 9) ∨ (10 ≤ p1.toInt ∧ 0 ≤ v_row_count_20.toInt ∧ v_row_count_20.toInt ≤ (nv_row_items : Int) ∧ v_row_count.toInt ≤ v_row_count_20.toInt)) → w_X4_writeNumber_20 p1 nv_row_items Q v_row_count_20 v_row_over_20 v_row_items_20 := by
    intro v_row_count_20 v_row_over_20 v_row_items_20 f1 f2 f3 f4
    unfold w_X4_writeNumber_20
    intro x29 ex29
    intro x30 ex30
    refine ok_X7_add (by omega) (by omega) (by omega) (fun r31_0 r31_1 r31_2 f5 f6 f7 f8 => ?_)
    exact hq r31_0 r31_1 r31_2 (by omega) (by omega) (by omega)
  refine ⟨fun c3 => ?_, fun c3 => ?_⟩
  · have f9 : p1.toInt < 10 := i_lt (a := p1.toInt) (b := 10) rfl rfl c3
    exact j_20 v_row_count v_row_over v_row_items (by omega) (by omega) (by omega) (by omega)
  · have f10 : 10 ≤ p1.toInt := i_nlt (a := p1.toInt) (b := 10) rfl rfl c3
    intro x15 ex15
    have f11 : (0 ≤ x15.toInt ∧ 10 * x15.toInt ≤ p1.toInt ∧ p1.toInt ≤ 10 * x15.toInt + 9) := by have h9 := i_div (b := 10) ex15 rfl (by decide) (by omega); omega
    intro x16 ex16
    have f12 : x16.toInt = 48 + x15.toInt := i_add (a := 48) (b := x15.toInt) ex16 rfl rfl (by omega) (by have h8_0 := i_rng p1; have h8_1 := i_rng x15; omega)
    refine ok_X7_add (by omega) (by omega) (by omega) (fun r17_0 r17_1 r17_2 f13 f14 f15 f16 => ?_)
    exact j_20 r17_0 r17_1 r17_2 (by omega) (by omega) (by omega) (by omega)
set_option maxHeartbeats 4000000 in
theorem ok_X4_writeLoop {p1 : Int32} {p2 : Int32} {v_row_count : Int32} {v_row_over : Bool} {v_row_items : Nat → Int32} {nv_row_items : Nat} {Q : Int32 → Bool → (Nat → Int32) → Prop} (a0 : 0 ≤ v_row_count.toInt) (a1 : v_row_count.toInt ≤ (nv_row_items : Int)) (a2 : (nv_row_items : Int) ≤ 1000) (hq : ∀ (ov_row_count : Int32) (ov_row_over : Bool) (ov_row_items : Nat → Int32), 0 ≤ ov_row_count.toInt → ov_row_count.toInt ≤ (nv_row_items : Int) → v_row_count.toInt ≤ ov_row_count.toInt → Q ov_row_count ov_row_over ov_row_items) : w_X4_writeLoop p1 p2 v_row_count v_row_over v_row_items nv_row_items Q := by
  have q_t : (bz true).toInt = 1 := rfl
  have q_f : (bz false).toInt = 0 := rfl
  have q_42 : (42 : Int32).toInt = 42 := rfl
  have q_43 : (43 : Int32).toInt = 43 := rfl
  have q_44 : (44 : Int32).toInt = 44 := rfl
  have q_63 : (63 : Int32).toInt = 63 := rfl
  have q_123 : (123 : Int32).toInt = 123 := rfl
  have q_125 : (125 : Int32).toInt = 125 := rfl
  unfold w_X4_writeLoop
  have j_29 : w_X4_writeLoop_29 p1 p2 nv_row_items Q v_row_count v_row_over v_row_items := by
    unfold w_X4_writeLoop_29
    have j_48 : w_X4_writeLoop_48 p1 p2 nv_row_items Q v_row_count v_row_over v_row_items := by
      unfold w_X4_writeLoop_48
      refine ok_X7_add (by omega) (by omega) (by omega) (fun r54_0 r54_1 r54_2 f1 f2 f3 f4 => ?_)
      refine ok_X4_writeNumber (by omega) (by omega) (by omega) (fun r59_0 r59_1 r59_2 f5 f6 f7 => ?_)
      have j_76 : ∀ (v_row_count_76 : Int32) (v_row_over_76 : Bool) (v_row_items_76 : Nat → Int32), 0 ≤ v_row_count_76.toInt → v_row_count_76.toInt ≤ (nv_row_items : Int) → v_row_count.toInt ≤ v_row_count_76.toInt → ((v_row_count_76.toInt = r59_0.toInt ∧ p2.toInt = p1.toInt) ∨ (0 ≤ v_row_count_76.toInt ∧ v_row_count_76.toInt ≤ (nv_row_items : Int) ∧ r59_0.toInt ≤ v_row_count_76.toInt)) → w_X4_writeLoop_76 p1 p2 nv_row_items Q v_row_count_76 v_row_over_76 v_row_items_76 := by
        intro v_row_count_76 v_row_over_76 v_row_items_76 f8 f9 f10 f11
        unfold w_X4_writeLoop_76
        have j_91 : ∀ (v_row_count_91 : Int32) (v_row_over_91 : Bool) (v_row_items_91 : Nat → Int32), 0 ≤ v_row_count_91.toInt → v_row_count_91.toInt ≤ (nv_row_items : Int) → v_row_count.toInt ≤ v_row_count_91.toInt → ((v_row_count_91.toInt = v_row_count_76.toInt ∧ p2.toInt = p1.toInt) ∨ (v_row_count_91.toInt = v_row_count_76.toInt ∧ p2.toInt + 1 = 0) ∨ (0 ≤ v_row_count_91.toInt ∧ v_row_count_91.toInt ≤ (nv_row_items : Int) ∧ v_row_count_76.toInt ≤ v_row_count_91.toInt)) → w_X4_writeLoop_91 nv_row_items Q v_row_count_91 v_row_over_91 v_row_items_91 := by
          intro v_row_count_91 v_row_over_91 v_row_items_91 f12 f13 f14 f15
          unfold w_X4_writeLoop_91
          refine ok_X7_add (by omega) (by omega) (by omega) (fun r97_0 r97_1 r97_2 f16 f17 f18 f19 => ?_)
          exact hq r97_0 r97_1 r97_2 (by omega) (by omega) (by omega)
        refine ⟨fun c78 => ?_, fun c78 => ?_⟩
        · have f20 : p2.toInt = p1.toInt := i_eq (a := p2.toInt) (b := p1.toInt) rfl rfl c78
          exact j_91 v_row_count_76 v_row_over_76 v_row_items_76 (by omega) (by omega) (by omega) (by omega)
        · have f21 : p2.toInt ≠ p1.toInt := i_ne (a := p2.toInt) (b := p1.toInt) rfl rfl c78
          refine ⟨fun c83 => ?_, fun c83 => ?_⟩
          · have f22 : p2.toInt = (-1) := i_eq (a := p2.toInt) (b := (-1)) rfl rfl c83
            exact j_91 v_row_count_76 v_row_over_76 v_row_items_76 (by omega) (by omega) (by omega) (by omega)
          · have f23 : p2.toInt ≠ (-1) := i_ne (a := p2.toInt) (b := (-1)) rfl rfl c83
            refine ok_X4_writeNumber (by omega) (by omega) (by omega) (fun r88_0 r88_1 r88_2 f24 f25 f26 => ?_)
            exact j_91 r88_0 r88_1 r88_2 (by omega) (by omega) (by omega) (by omega)
      refine ⟨fun c64 => ?_, fun c64 => ?_⟩
      · have f27 : p2.toInt = p1.toInt := i_eq (a := p2.toInt) (b := p1.toInt) rfl rfl c64
        exact j_76 r59_0 r59_1 r59_2 (by omega) (by omega) (by omega) (by omega)
      · have f28 : p2.toInt ≠ p1.toInt := i_ne (a := p2.toInt) (b := p1.toInt) rfl rfl c64
        refine ok_X7_add (by omega) (by omega) (by omega) (fun r73_0 r73_1 r73_2 f29 f30 f31 f32 => ?_)
        exact j_76 r73_0 r73_1 r73_2 (by omega) (by omega) (by omega) (by omega)
    refine ⟨fun c30 => ?_, fun c30 => ?_⟩
    · have f33 : p1.toInt ≠ 0 := i_ne (a := p1.toInt) (b := 0) rfl rfl c30
      exact j_48  
    · have f34 : p1.toInt = 0 := i_eq (a := p1.toInt) (b := 0) rfl rfl c30
      refine ⟨fun c35 => ?_, fun c35 => ?_⟩
      · have f35 : p2.toInt ≠ 1 := i_ne (a := p2.toInt) (b := 1) rfl rfl c35
        exact j_48  
      · have f36 : p2.toInt = 1 := i_eq (a := p2.toInt) (b := 1) rfl rfl c35
        refine ok_X7_add (by omega) (by omega) (by omega) (fun r44_0 r44_1 r44_2 f37 f38 f39 f40 => ?_)
        exact hq r44_0 r44_1 r44_2 (by omega) (by omega) (by omega)
  refine ⟨fun c2 => ?_, fun c2 => ?_⟩
  · have f41 : p2.toInt ≠ (-1) := i_ne (a := p2.toInt) (b := (-1)) rfl rfl c2
    exact j_29  
  · have f42 : p2.toInt = (-1) := i_eq (a := p2.toInt) (b := (-1)) rfl rfl c2
    refine ⟨fun c7 => ?_, fun c7 => ?_⟩
    · have f43 : 1 < p1.toInt := i_lt (a := 1) (b := p1.toInt) rfl rfl c7
      exact j_29  
    · have f44 : p1.toInt ≤ 1 := i_nlt (a := 1) (b := p1.toInt) rfl rfl c7
      have j_25 : ∀ (s0_25 : Int32), ((s0_25.toInt = 43) ∨ (s0_25.toInt = 42 ∧ p1.toInt = 0)) → w_X4_writeLoop_25 nv_row_items Q s0_25 v_row_count v_row_over v_row_items := by
        intro s0_25 f45
        unfold w_X4_writeLoop_25
        refine ok_X7_add (by omega) (by omega) (by omega) (fun r25_0 r25_1 r25_2 f46 f47 f48 f49 => ?_)
        exact hq r25_0 r25_1 r25_2 (by omega) (by omega) (by omega)
      refine ⟨fun c15 => ?_, fun c15 => ?_⟩
      · have f50 : p1.toInt ≠ 0 := i_ne (a := p1.toInt) (b := 0) rfl rfl c15
        exact j_25 43 (by omega)
      · have f51 : p1.toInt = 0 := i_eq (a := p1.toInt) (b := 0) rfl rfl c15
        exact j_25 42 (by omega)
set_option maxHeartbeats 4000000 in
theorem ok_X4_writeClosing {p2 : Int32} {v_row_count : Int32} {v_row_over : Bool} {v_row_items : Nat → Int32} {nv_row_items : Nat} {a1_count : Int32} {a1_sort : Nat → Int32} {a1_value : Nat → Int32} {a1_low : Nat → Int32} {a1_high : Nat → Int32} {Q : Int32 → Bool → (Nat → Int32) → Prop} (a0 : 0 ≤ v_row_count.toInt) (a1 : v_row_count.toInt ≤ (nv_row_items : Int)) (a2 : (nv_row_items : Int) ≤ 1000) (a3 : 0 ≤ a1_count.toInt) (a4 : a1_count.toInt ≤ 256) (hq : ∀ (ov_row_count : Int32) (ov_row_over : Bool) (ov_row_items : Nat → Int32), 0 ≤ ov_row_count.toInt → ov_row_count.toInt ≤ (nv_row_items : Int) → v_row_count.toInt ≤ ov_row_count.toInt → Q ov_row_count ov_row_over ov_row_items) : w_X4_writeClosing p2 v_row_count v_row_over v_row_items nv_row_items a1_count a1_sort a1_value a1_low a1_high Q := by
  have q_t : (bz true).toInt = 1 := rfl
  have q_f : (bz false).toInt = 0 := rfl
  have q_41 : (41 : Int32).toInt = 41 := rfl
  have q_43 : (43 : Int32).toInt = 43 := rfl
  have q_63 : (63 : Int32).toInt = 63 := rfl
  unfold w_X4_writeClosing
  refine ok_X10_sortOf (by omega) (by omega) (fun r2 f1 => ?_)
  have j_77 : ∀ (v_row_count_77 : Int32) (v_row_over_77 : Bool) (v_row_items_77 : Nat → Int32), 0 ≤ v_row_count_77.toInt → v_row_count_77.toInt ≤ (nv_row_items : Int) → v_row_count.toInt ≤ v_row_count_77.toInt → w_X4_writeClosing_77 Q v_row_count_77 v_row_over_77 v_row_items_77 := by
    intro v_row_count_77 v_row_over_77 v_row_items_77 f2 f3 f4
    unfold w_X4_writeClosing_77
    exact hq v_row_count_77 v_row_over_77 v_row_items_77 (by omega) (by omega) (by omega)
  refine ⟨fun c7 => ?_, fun c7 => ?_⟩
  · have f5 : r2.toInt ≠ 7 := i_ne (a := r2.toInt) (b := 7) rfl rfl c7
    refine ok_X10_sortOf (by omega) (by omega) (fun r60 f6 => ?_)
    refine ⟨fun c65 => ?_, fun c65 => ?_⟩
    · have f7 : r60.toInt < 8 := i_lt (a := r60.toInt) (b := 8) rfl rfl c65
      exact j_77 v_row_count v_row_over v_row_items (by omega) (by omega) (by omega)
    · have f8 : 8 ≤ r60.toInt := i_nlt (a := r60.toInt) (b := 8) rfl rfl c65
      refine ok_X7_add (by omega) (by omega) (by omega) (fun r74_0 r74_1 r74_2 f9 f10 f11 f12 => ?_)
      exact j_77 r74_0 r74_1 r74_2 (by omega) (by omega) (by omega)
  · have f13 : r2.toInt = 7 := i_eq (a := r2.toInt) (b := 7) rfl rfl c7
    refine ok_X10_lowOf (by omega) (by omega) (fun r13 f14 => ?_)
    refine ok_X10_highOf (by omega) (by omega) (fun r18 f15 => ?_)
    refine ok_X4_writeLoop (by omega) (by omega) (by omega) (fun r21_0 r21_1 r21_2 f16 f17 f18 => ?_)
    refine ok_X10_valueOf (by omega) (by omega) (fun r26 f19 => ?_)
    refine ⟨fun c29 => ?_, fun c29 => ?_⟩
    · have f20 : r26.toInt = 0 := i_eq (a := r26.toInt) (b := 0) rfl rfl c29
      exact j_77 r21_0 r21_1 r21_2 (by omega) (by omega) (by omega)
    · have f21 : r26.toInt ≠ 0 := i_ne (a := r26.toInt) (b := 0) rfl rfl c29
      refine ok_X10_valueOf (by omega) (by omega) (fun r38 f22 => ?_)
      have j_52 : ∀ (s0_52 : Int32), ((s0_52.toInt = 43) ∨ (s0_52.toInt = 63 ∧ r38.toInt = 1)) → w_X4_writeClosing_52 nv_row_items Q s0_52 r21_0 r21_1 r21_2 := by
        intro s0_52 f23
        unfold w_X4_writeClosing_52
        refine ok_X7_add (by omega) (by omega) (by omega) (fun r52_0 r52_1 r52_2 f24 f25 f26 f27 => ?_)
        exact j_77 r52_0 r52_1 r52_2 (by omega) (by omega) (by omega)
      refine ⟨fun c42 => ?_, fun c42 => ?_⟩
      · have f28 : r38.toInt ≠ 1 := i_ne (a := r38.toInt) (b := 1) rfl rfl c42
        exact j_52 43 (by omega)
      · have f29 : r38.toInt = 1 := i_eq (a := r38.toInt) (b := 1) rfl rfl c42
        exact j_52 63 (by omega)
set_option maxHeartbeats 4000000 in
theorem okB_X4_writeNode {p2 : Int32} {p3 : Int32} {v_row_count : Int32} {v_row_over : Bool} {v_row_there : Bool} {v_row_items : Nat → Int32} {nv_row_items : Nat} {v_behindOpening : Int32} {a1_there : Bool} {a1_count : Int32} {a1_captures : Int32} {a1_ranges : Int32} {a1_sort : Nat → Int32} {a1_holder : Nat → Int32} {a1_end : Nat → Int32} {a1_parts : Nat → Int32} {a1_value : Nat → Int32} {a1_low : Nat → Int32} {a1_high : Nat → Int32} {a1_rangeBegin : Nat → Int32} {a1_rangeEnd : Nat → Int32} {W_X4_writeNode : Int32 → Int32 → Int32 → Bool → Bool → (Nat → Int32) → Nat → Int32 → Bool → Int32 → Int32 → Int32 → (Nat → Int32) → (Nat → Int32) → (Nat → Int32) → (Nat → Int32) → (Nat → Int32) → (Nat → Int32) → (Nat → Int32) → (Nat → Int32) → (Nat → Int32) → (Int32 → Bool → (Nat → Int32) → Int32 → Prop) → Prop} {lv : Int} (hW_X4_writeNode : ∀ (p2 : Int32) (p3 : Int32) (v_row_count : Int32) (v_row_over : Bool) (v_row_there : Bool) (v_row_items : Nat → Int32) (nv_row_items : Nat) (v_behindOpening : Int32) (a1_there : Bool) (a1_count : Int32) (a1_captures : Int32) (a1_ranges : Int32) (a1_sort : Nat → Int32) (a1_holder : Nat → Int32) (a1_end : Nat → Int32) (a1_parts : Nat → Int32) (a1_value : Nat → Int32) (a1_low : Nat → Int32) (a1_high : Nat → Int32) (a1_rangeBegin : Nat → Int32) (a1_rangeEnd : Nat → Int32) (Q : Int32 → Bool → (Nat → Int32) → Int32 → Prop), 0 ≤ v_row_count.toInt → v_row_count.toInt ≤ (nv_row_items : Int) → (nv_row_items : Int) ≤ 1000 → 0 ≤ a1_count.toInt → a1_count.toInt ≤ 256 → 0 ≤ a1_ranges.toInt → a1_ranges.toInt ≤ 512 → 0 ≤ p3.toInt → p3.toInt ≤ 61 → (lv : Int) + 1 ≤ p3.toInt → rp (fun k v => k < v ∧ v ≤ 256) a1_end 0 a1_count.toInt → rp (fun k v => v < k ∧ -1 ≤ v) a1_holder 0 a1_count.toInt → (∀ (ov_row_count : Int32) (ov_row_over : Bool) (ov_row_items : Nat → Int32) (ov_behindOpening : Int32), 0 ≤ ov_row_count.toInt → ov_row_count.toInt ≤ (nv_row_items : Int) → Q ov_row_count ov_row_over ov_row_items ov_behindOpening) → W_X4_writeNode p2 p3 v_row_count v_row_over v_row_there v_row_items nv_row_items v_behindOpening a1_there a1_count a1_captures a1_ranges a1_sort a1_holder a1_end a1_parts a1_value a1_low a1_high a1_rangeBegin a1_rangeEnd Q) {Q : Int32 → Bool → (Nat → Int32) → Int32 → Prop} (a0 : 0 ≤ v_row_count.toInt) (a1 : v_row_count.toInt ≤ (nv_row_items : Int)) (a2 : (nv_row_items : Int) ≤ 1000) (a3 : 0 ≤ a1_count.toInt) (a4 : a1_count.toInt ≤ 256) (a5 : 0 ≤ a1_ranges.toInt) (a6 : a1_ranges.toInt ≤ 512) (a7 : 0 ≤ p3.toInt) (a8 : p3.toInt ≤ 61) (a9 : (lv : Int) ≤ p3.toInt) (b0 : rp (fun k v => k < v ∧ v ≤ 256) a1_end 0 a1_count.toInt) (b1 : rp (fun k v => v < k ∧ -1 ≤ v) a1_holder 0 a1_count.toInt) (hq : ∀ (ov_row_count : Int32) (ov_row_over : Bool) (ov_row_items : Nat → Int32) (ov_behindOpening : Int32), ((ov_row_count.toInt = v_row_count.toInt ∧ (bz ov_row_over).toInt = (bz v_row_over).toInt ∧ ov_behindOpening.toInt = v_behindOpening.toInt ∧ 61 ≤ p3.toInt) ∨ (p3.toInt ≤ 60 ∧ 0 ≤ ov_row_count.toInt ∧ ov_row_count.toInt ≤ (nv_row_items : Int))) → Q ov_row_count ov_row_over ov_row_items ov_behindOpening) : wB_X4_writeNode W_X4_writeNode p2 p3 v_row_count v_row_over v_row_there v_row_items nv_row_items v_behindOpening a1_there a1_count a1_captures a1_ranges a1_sort a1_holder a1_end a1_parts a1_value a1_low a1_high a1_rangeBegin a1_rangeEnd Q := by
  have q_t : (bz true).toInt = 1 := rfl
  have q_f : (bz false).toInt = 0 := rfl
  have q_40 : (40 : Int32).toInt = 40 := rfl
  have q_41 : (41 : Int32).toInt = 41 := rfl
  have q_58 : (58 : Int32).toInt = 58 := rfl
  have q_124 : (124 : Int32).toInt = 124 := rfl
  unfold wB_X4_writeNode
  refine ⟨fun c3 => ?_, fun c3 => ?_⟩
  · have f1 : p3.toInt ≤ 60 := i_le (a := p3.toInt) (b := 60) rfl rfl c3
    refine ok_X10_sortOf (by omega) (by omega) (fun r9 f2 => ?_)
    refine ok_X10_holderOf (by omega) (by omega) (rp_mono b1 (by omega) (by omega)) (fun r15 f3 => ?_)
    refine ok_X10_sortOf (by omega) (by omega) (fun r18 f4 => ?_)
    refine ok_X10_holderOf (by omega) (by omega) (rp_mono b1 (by omega) (by omega)) (fun r23 f5 => ?_)
    refine ok_X4_isGrouped  (fun r26 f6 f7 => ?_)
    have j_54 : ∀ (v_row_count_54 : Int32) (v_row_over_54 : Bool) (v_row_items_54 : Nat → Int32), 0 ≤ v_row_count_54.toInt → v_row_count_54.toInt ≤ (nv_row_items : Int) → v_row_count.toInt ≤ v_row_count_54.toInt → ((v_row_count_54.toInt = v_row_count.toInt ∧ r26.toInt = 0) ∨ (0 ≤ v_row_count_54.toInt ∧ v_row_count_54.toInt ≤ (nv_row_items : Int))) → w_X4_writeNode_54 W_X4_writeNode p2 p3 v_row_there nv_row_items a1_there a1_count a1_captures a1_ranges a1_sort a1_holder a1_end a1_parts a1_value a1_low a1_high a1_rangeBegin a1_rangeEnd Q r26 v_row_count_54 v_row_over_54 v_row_items_54 v_behindOpening := by
      intro v_row_count_54 v_row_over_54 v_row_items_54 f8 f9 f10 f11
      unfold w_X4_writeNode_54
      refine ok_X10_sortOf (by omega) (by omega) (fun r56 f12 => ?_)
      have j_147 : ∀ (v_row_count_147 : Int32) (v_row_over_147 : Bool) (v_row_items_147 : Nat → Int32) (v_behindOpening_147 : Int32), 0 ≤ v_row_count_147.toInt → v_row_count_147.toInt ≤ (nv_row_items : Int) → ((v_behindOpening_147.toInt = v_behindOpening.toInt ∧ r56.toInt ≤ 4 ∧ v_row_count_54.toInt ≤ v_row_count_147.toInt) ∨ (5 ≤ r56.toInt)) → w_X4_writeNode_147 W_X4_writeNode nv_row_items Q r26 v_row_count_147 v_row_over_147 v_row_items_147 v_behindOpening_147 := by
        intro v_row_count_147 v_row_over_147 v_row_items_147 v_behindOpening_147 f13 f14 f15
        unfold w_X4_writeNode_147
        have j_161 : ∀ (v_row_count_161 : Int32) (v_row_over_161 : Bool) (v_row_items_161 : Nat → Int32), 0 ≤ v_row_count_161.toInt → v_row_count_161.toInt ≤ (nv_row_items : Int) → ((v_row_count_161.toInt = v_row_count_147.toInt ∧ r26.toInt = 0) ∨ (0 ≤ v_row_count_161.toInt ∧ v_row_count_161.toInt ≤ (nv_row_items : Int) ∧ v_row_count_147.toInt ≤ v_row_count_161.toInt)) → w_X4_writeNode_161 W_X4_writeNode Q v_row_count_161 v_row_over_161 v_row_items_161 v_behindOpening_147 := by
          intro v_row_count_161 v_row_over_161 v_row_items_161 f16 f17 f18
          unfold w_X4_writeNode_161
          exact hq v_row_count_161 v_row_over_161 v_row_items_161 v_behindOpening_147 (by omega)
        refine ⟨fun c149 => ?_, fun c149 => ?_⟩
        · have f19 : r26.toInt = 0 := i_eq (a := r26.toInt) (b := 0) rfl rfl c149
          exact j_161 v_row_count_147 v_row_over_147 v_row_items_147 (by omega) (by omega) (by omega)
        · have f20 : r26.toInt ≠ 0 := i_ne (a := r26.toInt) (b := 0) rfl rfl c149
          refine ok_X7_add (by omega) (by omega) (by omega) (fun r158_0 r158_1 r158_2 f21 f22 f23 f24 => ?_)
          exact j_161 r158_0 r158_1 r158_2 (by omega) (by omega) (by omega)
      refine ⟨fun c60 => ?_, fun c60 => ?_⟩
      · have f25 : 4 < r56.toInt := i_lt (a := 4) (b := r56.toInt) rfl rfl c60
        refine ok_X4_writeOpening (by omega) (by omega) (by omega) (by omega) (by omega) (fun r75_0 r75_1 r75_2 r75_3 f26 f27 f28 => ?_)
        refine ok_X10_firstOf (by omega) (by omega) (rp_mono b0 (by omega) (by omega)) (fun r80 f29 f30 => ?_)
        have j_85 : ∀ n_85 : Nat, ∀ (l5_85 : Int32) (v_row_count_85 : Int32) (v_row_over_85 : Bool) (v_row_items_85 : Nat → Int32) (v_behindOpening_85 : Int32), 0 ≤ l5_85.toInt + 1 → l5_85.toInt ≤ 255 → 0 ≤ v_row_count_85.toInt → v_row_count_85.toInt ≤ (nv_row_items : Int) → (1 ≤ n_85 ∧ (l5_85.toInt + 1 ≤ 0 ∨ (-1) * l5_85.toInt + 2147483648 ≤ (n_85 : Int))) → w_X4_writeNode_85 W_X4_writeNode p2 p3 v_row_there nv_row_items a1_there a1_count a1_captures a1_ranges a1_sort a1_holder a1_end a1_parts a1_value a1_low a1_high a1_rangeBegin a1_rangeEnd Q r26 n_85 l5_85 v_row_count_85 v_row_over_85 v_row_items_85 v_behindOpening_85 := by
          intro n_85
          induction n_85 with
          | zero =>
            intro l5_85 v_row_count_85 v_row_over_85 v_row_items_85 v_behindOpening_85 f31 f32 f33 f34 hm_85
            exfalso; omega
          | succ n_85 ih_85 =>
            intro l5_85 v_row_count_85 v_row_over_85 v_row_items_85 v_behindOpening_85 f31 f32 f33 f34 hm_85
            unfold w_X4_writeNode_85
            unfold w_X4_writeNode_85B
            refine ⟨fun c88 => ?_, fun c88 => ?_⟩
            · have f35 : l5_85.toInt = (-1) := i_eq (a := l5_85.toInt) (b := (-1)) rfl rfl c88
              refine ok_X4_writeClosing (by omega) (by omega) (by omega) (by omega) (by omega) (fun r144_0 r144_1 r144_2 f36 f37 f38 => ?_)
              exact j_147 r144_0 r144_1 r144_2 v_behindOpening_85 (by omega) (by omega) (by omega)
            · have f39 : l5_85.toInt ≠ (-1) := i_ne (a := l5_85.toInt) (b := (-1)) rfl rfl c88
              intro x97 ex97
              have f40 : x97.toInt = p3.toInt + 1 := i_add (a := p3.toInt) (b := 1) ex97 rfl rfl (by omega) (by omega)
              refine hW_X4_writeNode l5_85 x97 v_row_count_85 v_row_over_85 v_row_there v_row_items_85 nv_row_items v_behindOpening_85 a1_there a1_count a1_captures a1_ranges a1_sort a1_holder a1_end a1_parts a1_value a1_low a1_high a1_rangeBegin a1_rangeEnd _ (by omega) (by omega) (by omega) (by omega) (by omega) (by omega) (by omega) (by omega) (by omega) (by omega) (rp_mono b0 (by omega) (by omega)) (rp_mono b1 (by omega) (by omega)) (fun r98_0 r98_1 r98_2 r98_3 f41 f42 => ?_)
              refine ok_X10_sortOf (by omega) (by omega) (fun r103 f43 => ?_)
              have j_130 : ∀ (v_row_count_130 : Int32) (v_row_over_130 : Bool) (v_row_items_130 : Nat → Int32), 0 ≤ v_row_count_130.toInt → v_row_count_130.toInt ≤ (nv_row_items : Int) → ((v_row_count_130.toInt = r98_0.toInt) ∨ (v_row_count_130.toInt = r98_0.toInt ∧ r103.toInt = 6) ∨ (r103.toInt = 6 ∧ 0 ≤ v_row_count_130.toInt ∧ v_row_count_130.toInt ≤ (nv_row_items : Int) ∧ r98_0.toInt ≤ v_row_count_130.toInt)) → w_X4_writeNode_130 W_X4_writeNode a1_count a1_holder a1_end Q (w_X4_writeNode_85 W_X4_writeNode p2 p3 v_row_there nv_row_items a1_there a1_count a1_captures a1_ranges a1_sort a1_holder a1_end a1_parts a1_value a1_low a1_high a1_rangeBegin a1_rangeEnd Q r26 n_85) l5_85 v_row_count_130 v_row_over_130 v_row_items_130 r98_3 := by
                intro v_row_count_130 v_row_over_130 v_row_items_130 f44 f45 f46
                unfold w_X4_writeNode_130
                refine ok_X10_nextOf (by omega) (by omega) (rp_mono b0 (by omega) (by omega)) (rp_mono b1 (by omega) (by omega)) (fun r133 f47 f48 f49 => ?_)
                exact ih_85 r133 v_row_count_130 v_row_over_130 v_row_items_130 r98_3 (by omega) (by omega) (by omega) (by omega) (by have h8_0 := i_rng l5_85; have h8_1 := i_rng r133; omega)
              refine ⟨fun c108 => ?_, fun c108 => ?_⟩
              · have f50 : r103.toInt ≠ 6 := i_ne (a := r103.toInt) (b := 6) rfl rfl c108
                exact j_130 r98_0 r98_1 r98_2 (by omega) (by omega) (by omega)
              · have f51 : r103.toInt = 6 := i_eq (a := r103.toInt) (b := 6) rfl rfl c108
                refine ok_X10_nextOf (by omega) (by omega) (rp_mono b0 (by omega) (by omega)) (rp_mono b1 (by omega) (by omega)) (fun r114 f52 f53 f54 => ?_)
                refine ⟨fun c118 => ?_, fun c118 => ?_⟩
                · have f55 : r114.toInt = (-1) := i_eq (a := r114.toInt) (b := (-1)) rfl rfl c118
                  exact j_130 r98_0 r98_1 r98_2 (by omega) (by omega) (by omega)
                · have f56 : r114.toInt ≠ (-1) := i_ne (a := r114.toInt) (b := (-1)) rfl rfl c118
                  refine ok_X7_add (by omega) (by omega) (by omega) (fun r127_0 r127_1 r127_2 f57 f58 f59 f60 => ?_)
                  exact j_130 r127_0 r127_1 r127_2 (by omega) (by omega) (by omega)
        exact ⟨((-1) * r80.toInt + 2147483648).toNat + 1, j_85   (((-1) * r80.toInt + 2147483648).toNat + 1) r80 r75_0 r75_1 r75_2 r75_3 (by omega) (by omega) (by omega) (by omega) (by omega)⟩
      · have f61 : r56.toInt ≤ 4 := i_nlt (a := 4) (b := r56.toInt) rfl rfl c60
        refine ok_X4_writeLeaf (by omega) (by omega) (by omega) (by omega) (by omega) (by omega) (by omega) (fun r66_0 r66_1 r66_2 f62 f63 f64 => ?_)
        exact j_147 r66_0 r66_1 r66_2 v_behindOpening (by omega) (by omega) (by omega)
    refine ⟨fun c33 => ?_, fun c33 => ?_⟩
    · have f65 : r26.toInt = 0 := i_eq (a := r26.toInt) (b := 0) rfl rfl c33
      exact j_54 v_row_count v_row_over v_row_items (by omega) (by omega) (by omega) (by omega)
    · have f66 : r26.toInt ≠ 0 := i_ne (a := r26.toInt) (b := 0) rfl rfl c33
      refine ok_X7_add (by omega) (by omega) (by omega) (fun r42_0 r42_1 r42_2 f67 f68 f69 f70 => ?_)
      refine ok_X7_add (by omega) (by omega) (by omega) (fun r51_0 r51_1 r51_2 f71 f72 f73 f74 => ?_)
      exact j_54 r51_0 r51_1 r51_2 (by omega) (by omega) (by omega) (by omega)
  · have f75 : 60 < p3.toInt := i_nle (a := p3.toInt) (b := 60) rfl rfl c3
    exact hq v_row_count v_row_over v_row_items v_behindOpening (by omega)
set_option maxHeartbeats 4000000 in
theorem okN_X4_writeNode (n9 : Nat) : ∀ (p2 : Int32) (p3 : Int32) (v_row_count : Int32) (v_row_over : Bool) (v_row_there : Bool) (v_row_items : Nat → Int32) (nv_row_items : Nat) (v_behindOpening : Int32) (a1_there : Bool) (a1_count : Int32) (a1_captures : Int32) (a1_ranges : Int32) (a1_sort : Nat → Int32) (a1_holder : Nat → Int32) (a1_end : Nat → Int32) (a1_parts : Nat → Int32) (a1_value : Nat → Int32) (a1_low : Nat → Int32) (a1_high : Nat → Int32) (a1_rangeBegin : Nat → Int32) (a1_rangeEnd : Nat → Int32) (Q : Int32 → Bool → (Nat → Int32) → Int32 → Prop), 61 - p3.toInt < (n9 : Int) → 0 ≤ v_row_count.toInt → v_row_count.toInt ≤ (nv_row_items : Int) → (nv_row_items : Int) ≤ 1000 → 0 ≤ a1_count.toInt → a1_count.toInt ≤ 256 → 0 ≤ a1_ranges.toInt → a1_ranges.toInt ≤ 512 → 0 ≤ p3.toInt → p3.toInt ≤ 61 → rp (fun k v => k < v ∧ v ≤ 256) a1_end 0 a1_count.toInt → rp (fun k v => v < k ∧ -1 ≤ v) a1_holder 0 a1_count.toInt → (∀ (ov_row_count : Int32) (ov_row_over : Bool) (ov_row_items : Nat → Int32) (ov_behindOpening : Int32), 0 ≤ ov_row_count.toInt → ov_row_count.toInt ≤ (nv_row_items : Int) → Q ov_row_count ov_row_over ov_row_items ov_behindOpening) → w_X4_writeNode n9 p2 p3 v_row_count v_row_over v_row_there v_row_items nv_row_items v_behindOpening a1_there a1_count a1_captures a1_ranges a1_sort a1_holder a1_end a1_parts a1_value a1_low a1_high a1_rangeBegin a1_rangeEnd Q := by
  induction n9 with
  | zero => intro p2 p3 v_row_count v_row_over v_row_there v_row_items nv_row_items v_behindOpening a1_there a1_count a1_captures a1_ranges a1_sort a1_holder a1_end a1_parts a1_value a1_low a1_high a1_rangeBegin a1_rangeEnd Q hn a0 a1 a2 a3 a4 a5 a6 a7 a8 b0 b1 hq; exfalso; omega
  | succ n9 ih =>
    intro p2 p3 v_row_count v_row_over v_row_there v_row_items nv_row_items v_behindOpening a1_there a1_count a1_captures a1_ranges a1_sort a1_holder a1_end a1_parts a1_value a1_low a1_high a1_rangeBegin a1_rangeEnd Q hn a0 a1 a2 a3 a4 a5 a6 a7 a8 b0 b1 hq
    unfold w_X4_writeNode
    exact okB_X4_writeNode (lv := p3.toInt) (fun p2 p3 v_row_count v_row_over v_row_there v_row_items nv_row_items v_behindOpening a1_there a1_count a1_captures a1_ranges a1_sort a1_holder a1_end a1_parts a1_value a1_low a1_high a1_rangeBegin a1_rangeEnd Q a0 a1 a2 a3 a4 a5 a6 a7 a8 a9 b0 b1 hq => ih p2 p3 v_row_count v_row_over v_row_there v_row_items nv_row_items v_behindOpening a1_there a1_count a1_captures a1_ranges a1_sort a1_holder a1_end a1_parts a1_value a1_low a1_high a1_rangeBegin a1_rangeEnd Q (by omega) a0 a1 a2 a3 a4 a5 a6 a7 a8 b0 b1 hq) (by omega) (by omega) (by omega) (by omega) (by omega) (by omega) (by omega) (by omega) (by omega) (by omega) b0 b1 (fun ov_row_count ov_row_over ov_row_items ov_behindOpening f0 => hq ov_row_count ov_row_over ov_row_items ov_behindOpening (by omega) (by omega))
theorem ok_X4_writeNode {p2 : Int32} {p3 : Int32} {v_row_count : Int32} {v_row_over : Bool} {v_row_there : Bool} {v_row_items : Nat → Int32} {nv_row_items : Nat} {v_behindOpening : Int32} {a1_there : Bool} {a1_count : Int32} {a1_captures : Int32} {a1_ranges : Int32} {a1_sort : Nat → Int32} {a1_holder : Nat → Int32} {a1_end : Nat → Int32} {a1_parts : Nat → Int32} {a1_value : Nat → Int32} {a1_low : Nat → Int32} {a1_high : Nat → Int32} {a1_rangeBegin : Nat → Int32} {a1_rangeEnd : Nat → Int32} {Q : Int32 → Bool → (Nat → Int32) → Int32 → Prop} (a0 : 0 ≤ v_row_count.toInt) (a1 : v_row_count.toInt ≤ (nv_row_items : Int)) (a2 : (nv_row_items : Int) ≤ 1000) (a3 : 0 ≤ a1_count.toInt) (a4 : a1_count.toInt ≤ 256) (a5 : 0 ≤ a1_ranges.toInt) (a6 : a1_ranges.toInt ≤ 512) (a7 : 0 ≤ p3.toInt) (a8 : p3.toInt ≤ 61) (b0 : rp (fun k v => k < v ∧ v ≤ 256) a1_end 0 a1_count.toInt) (b1 : rp (fun k v => v < k ∧ -1 ≤ v) a1_holder 0 a1_count.toInt) (hq : ∀ (ov_row_count : Int32) (ov_row_over : Bool) (ov_row_items : Nat → Int32) (ov_behindOpening : Int32), 0 ≤ ov_row_count.toInt → ov_row_count.toInt ≤ (nv_row_items : Int) → Q ov_row_count ov_row_over ov_row_items ov_behindOpening) : w_X4_writeNode 64 p2 p3 v_row_count v_row_over v_row_there v_row_items nv_row_items v_behindOpening a1_there a1_count a1_captures a1_ranges a1_sort a1_holder a1_end a1_parts a1_value a1_low a1_high a1_rangeBegin a1_rangeEnd Q :=
  okN_X4_writeNode 64 p2 p3 v_row_count v_row_over v_row_there v_row_items nv_row_items v_behindOpening a1_there a1_count a1_captures a1_ranges a1_sort a1_holder a1_end a1_parts a1_value a1_low a1_high a1_rangeBegin a1_rangeEnd Q (by omega) a0 a1 a2 a3 a4 a5 a6 a7 a8 b0 b1 hq
set_option maxHeartbeats 4000000 in
theorem ok_X3_setCell {p1 : Int32} {p2 : Int32} {v_cells : Nat → Int32} {Q : (Nat → Int32) → Prop} (hq : ∀ (ov_cells : Nat → Int32), Q ov_cells) : w_X3_setCell p1 p2 v_cells Q := by
  have q_t : (bz true).toInt = 1 := rfl
  have q_f : (bz false).toInt = 0 := rfl
  unfold w_X3_setCell
  have j_17 : ∀ (v_cells_17 : Nat → Int32), ((p1.toInt + 1 ≤ 0) ∨ (0 ≤ p1.toInt ∧ 20 ≤ p1.toInt) ∨ (0 ≤ p1.toInt ∧ p1.toInt ≤ 19)) → w_X3_setCell_17 Q v_cells_17 := by
    intro v_cells_17 f1
    unfold w_X3_setCell_17
    exact hq v_cells_17 
  refine ⟨fun c1 => ?_, fun c1 => ?_⟩
  · have f2 : p1.toInt < 0 := i_lt (a := p1.toInt) (b := 0) rfl rfl c1
    exact j_17 v_cells (by omega)
  · have f3 : 0 ≤ p1.toInt := i_nlt (a := p1.toInt) (b := 0) rfl rfl c1
    refine ⟨fun c7 => ?_, fun c7 => ?_⟩
    · have f4 : 20 ≤ p1.toInt := i_le (a := 20) (b := p1.toInt) rfl rfl c7
      exact j_17 v_cells (by omega)
    · have f5 : p1.toInt < 20 := i_nle (a := 20) (b := p1.toInt) rfl rfl c7
      refine ⟨i_in (by omega) (by omega), ?_⟩
      intro g16 eg16
      exact j_17 g16 (by omega)
set_option maxHeartbeats 4000000 in
theorem ok_X3_cellAt {p1 : Int32} {v_cells : Nat → Int32} {Q : Int32 → Prop} (hq : ∀ (r : Int32), ((0 ≤ p1.toInt ∧ p1.toInt ≤ 19) ∨ (r.toInt + 1 = 0)) → Q r) : w_X3_cellAt p1 v_cells Q := by
  have q_t : (bz true).toInt = 1 := rfl
  have q_f : (bz false).toInt = 0 := rfl
  have q_m1 : ((-1) : Int32).toInt = (-1) := rfl
  unfold w_X3_cellAt
  have j_20 : ∀ (s0_20 : Int32), ((0 ≤ p1.toInt ∧ p1.toInt ≤ 19) ∨ (s0_20.toInt + 1 = 0)) → w_X3_cellAt_20 Q s0_20 := by
    intro s0_20 f1
    unfold w_X3_cellAt_20
    exact hq s0_20 (by omega)
  have j_19 : ((p1.toInt + 1 ≤ 0) ∨ (0 ≤ p1.toInt ∧ 20 ≤ p1.toInt)) → w_X3_cellAt_19 Q := by
    intro f2
    unfold w_X3_cellAt_19
    exact j_20 (-1) (by omega)
  refine ⟨fun c1 => ?_, fun c1 => ?_⟩
  · have f3 : p1.toInt < 0 := i_lt (a := p1.toInt) (b := 0) rfl rfl c1
    exact j_19  (by omega)
  · have f4 : 0 ≤ p1.toInt := i_nlt (a := p1.toInt) (b := 0) rfl rfl c1
    refine ⟨fun c7 => ?_, fun c7 => ?_⟩
    · have f5 : 20 ≤ p1.toInt := i_le (a := 20) (b := p1.toInt) rfl rfl c7
      exact j_19  (by omega)
    · have f6 : p1.toInt < 20 := i_nle (a := 20) (b := p1.toInt) rfl rfl c7
      refine ⟨i_in (by omega) (by omega), ?_⟩
      intro x15 ex15
      exact j_20 x15 (by omega)
set_option maxHeartbeats 4000000 in
theorem ok_X11_isWordSign {p0 : Int32} {Q : Int32 → Prop} (hq : ∀ (r : Int32), ((r.toInt = 0) ∨ (r.toInt = 1)) → Q r) : w_X11_isWordSign p0 Q := by
  have q_t : (bz true).toInt = 1 := rfl
  have q_f : (bz false).toInt = 0 := rfl
  have q_0 : (0 : Int32).toInt = 0 := rfl
  have q_1 : (1 : Int32).toInt = 1 := rfl
  unfold w_X11_isWordSign
  intro x3 ex3
  have j_40 : ∀ (s0_40 : Int32), ((s0_40.toInt = 0) ∨ (s0_40.toInt = 1)) → w_X11_isWordSign_40 Q s0_40 := by
    intro s0_40 f1
    unfold w_X11_isWordSign_40
    refine ⟨i_01 (by omega) (by omega), ?_⟩
    exact hq s0_40 (by omega)
  have j_35 : w_X11_isWordSign_35 Q := by
    unfold w_X11_isWordSign_35
    exact j_40 1 (by omega)
  have j_17 : w_X11_isWordSign_17 p0 Q := by
    unfold w_X11_isWordSign_17
    have j_29 : ((p0.toInt ≤ 47) ∨ (48 ≤ p0.toInt ∧ 58 ≤ p0.toInt)) → w_X11_isWordSign_29 p0 Q := by
      intro f2
      unfold w_X11_isWordSign_29
      refine ⟨fun c32 => ?_, fun c32 => ?_⟩
      · have f3 : p0.toInt ≠ 95 := i_ne (a := p0.toInt) (b := 95) rfl rfl c32
        exact j_40 0 (by omega)
      · have f4 : p0.toInt = 95 := i_eq (a := p0.toInt) (b := 95) rfl rfl c32
        exact j_35  
    refine ⟨fun c20 => ?_, fun c20 => ?_⟩
    · have f5 : p0.toInt < 48 := i_lt (a := p0.toInt) (b := 48) rfl rfl c20
      exact j_29  (by omega)
    · have f6 : 48 ≤ p0.toInt := i_nlt (a := p0.toInt) (b := 48) rfl rfl c20
      refine ⟨fun c26 => ?_, fun c26 => ?_⟩
      · have f7 : p0.toInt ≤ 57 := i_le (a := p0.toInt) (b := 57) rfl rfl c26
        exact j_35  
      · have f8 : 57 < p0.toInt := i_nle (a := p0.toInt) (b := 57) rfl rfl c26
        exact j_29  (by omega)
  refine ⟨fun c8 => ?_, fun c8 => ?_⟩
  · have f9 : x3.toInt < 97 := i_lt (a := x3.toInt) (b := 97) rfl rfl c8
    exact j_17  
  · have f10 : 97 ≤ x3.toInt := i_nlt (a := x3.toInt) (b := 97) rfl rfl c8
    refine ⟨fun c14 => ?_, fun c14 => ?_⟩
    · have f11 : x3.toInt ≤ 122 := i_le (a := x3.toInt) (b := 122) rfl rfl c14
      exact j_35  
    · have f12 : 122 < x3.toInt := i_nle (a := x3.toInt) (b := 122) rfl rfl c14
      exact j_17  
set_option maxHeartbeats 4000000 in
theorem ok_X11_edgeHolds {p0 : Int32} {p2 : Int32} {a1_count : Int32} {a1_items : Nat → Int32} {na1_items : Nat} {Q : Int32 → Prop} (a0 : 0 ≤ a1_count.toInt) (a1 : a1_count.toInt ≤ (na1_items : Int)) (a2 : (na1_items : Int) ≤ 1000) (hq : ∀ (r : Int32), 0 ≤ r.toInt → r.toInt ≤ 1 → Q r) : w_X11_edgeHolds p0 p2 a1_count a1_items na1_items Q := by
  have q_t : (bz true).toInt = 1 := rfl
  have q_f : (bz false).toInt = 0 := rfl
  have q_0 : (0 : Int32).toInt = 0 := rfl
  have q_1 : (1 : Int32).toInt = 1 := rfl
  unfold w_X11_edgeHolds
  refine ⟨fun c1 => ?_, fun c1 => ?_⟩
  · have f1 : p0.toInt ≠ 0 := i_ne (a := p0.toInt) (b := 0) rfl rfl c1
    refine ⟨fun c16 => ?_, fun c16 => ?_⟩
    · have f2 : p0.toInt ≠ 1 := i_ne (a := p0.toInt) (b := 1) rfl rfl c16
      intro x36 ex36
      refine ok_X7_at (by omega) (by omega) (by omega) (fun r37 f3 => ?_)
      refine ok_X11_isWordSign  (fun r40 f4 => ?_)
      refine ok_X7_at (by omega) (by omega) (by omega) (fun r45 f5 => ?_)
      refine ok_X11_isWordSign  (fun r48 f6 => ?_)
      have j_59 : ∀ (s0_59 : Int32), ((s0_59.toInt = 0 ∧ r40.toInt = r48.toInt) ∨ (s0_59.toInt = 1)) → w_X11_edgeHolds_59 p0 Q s0_59 := by
        intro s0_59 f7
        unfold w_X11_edgeHolds_59
        have j_71 : ∀ (s0_71 : Int32), ((s0_71.toInt = 0) ∨ (s0_71.toInt = 1 ∧ p0.toInt = 2)) → w_X11_edgeHolds_71 Q s0_71 s0_59 := by
          intro s0_71 f8
          unfold w_X11_edgeHolds_71
          have j_79 : ∀ (s0_79 : Int32), ((s0_79.toInt = 0) ∨ (s0_79.toInt = 1 ∧ s0_59.toInt = s0_71.toInt)) → w_X11_edgeHolds_79 Q s0_79 := by
            intro s0_79 f9
            unfold w_X11_edgeHolds_79
            refine ⟨i_01 (by omega) (by omega), ?_⟩
            exact hq s0_79 (by omega) (by omega)
          refine ⟨fun c71 => ?_, fun c71 => ?_⟩
          · have f10 : s0_59.toInt ≠ s0_71.toInt := i_ne (a := s0_59.toInt) (b := s0_71.toInt) rfl rfl c71
            exact j_79 0 (by omega)
          · have f11 : s0_59.toInt = s0_71.toInt := i_eq (a := s0_59.toInt) (b := s0_71.toInt) rfl rfl c71
            exact j_79 1 (by omega)
        refine ⟨fun c63 => ?_, fun c63 => ?_⟩
        · have f12 : p0.toInt ≠ 2 := i_ne (a := p0.toInt) (b := 2) rfl rfl c63
          exact j_71 0 (by omega)
        · have f13 : p0.toInt = 2 := i_eq (a := p0.toInt) (b := 2) rfl rfl c63
          exact j_71 1 (by omega)
      refine ⟨fun c51 => ?_, fun c51 => ?_⟩
      · have f14 : r40.toInt = r48.toInt := i_eq (a := r40.toInt) (b := r48.toInt) rfl rfl c51
        exact j_59 0 (by omega)
      · have f15 : r40.toInt ≠ r48.toInt := i_ne (a := r40.toInt) (b := r48.toInt) rfl rfl c51
        exact j_59 1 (by omega)
    · have f16 : p0.toInt = 1 := i_eq (a := p0.toInt) (b := 1) rfl rfl c16
      have j_32 : ∀ (s0_32 : Int32), ((s0_32.toInt = 0) ∨ (s0_32.toInt = 1 ∧ p2.toInt = a1_count.toInt)) → w_X11_edgeHolds_32 Q s0_32 := by
        intro s0_32 f17
        unfold w_X11_edgeHolds_32
        refine ⟨i_01 (by omega) (by omega), ?_⟩
        exact hq s0_32 (by omega) (by omega)
      refine ⟨fun c24 => ?_, fun c24 => ?_⟩
      · have f18 : p2.toInt ≠ a1_count.toInt := i_ne (a := p2.toInt) (b := a1_count.toInt) rfl rfl c24
        exact j_32 0 (by omega)
      · have f19 : p2.toInt = a1_count.toInt := i_eq (a := p2.toInt) (b := a1_count.toInt) rfl rfl c24
        exact j_32 1 (by omega)
  · have f20 : p0.toInt = 0 := i_eq (a := p0.toInt) (b := 0) rfl rfl c1
    have j_13 : ∀ (s0_13 : Int32), ((s0_13.toInt = 0) ∨ (s0_13.toInt = 1 ∧ p2.toInt = 0)) → w_X11_edgeHolds_13 Q s0_13 := by
      intro s0_13 f21
      unfold w_X11_edgeHolds_13
      refine ⟨i_01 (by omega) (by omega), ?_⟩
      exact hq s0_13 (by omega) (by omega)
    refine ⟨fun c5 => ?_, fun c5 => ?_⟩
    · have f22 : p2.toInt ≠ 0 := i_ne (a := p2.toInt) (b := 0) rfl rfl c5
      exact j_13 0 (by omega)
    · have f23 : p2.toInt = 0 := i_eq (a := p2.toInt) (b := 0) rfl rfl c5
      exact j_13 1 (by omega)
set_option maxHeartbeats 4000000 in
theorem ok_X3_markEdges {p1 : Int32} {v_edges : Nat → Bool} {v_subject_count : Int32} {v_subject_items : Nat → Int32} {nv_subject_items : Nat} {Q : (Nat → Bool) → Prop} (a0 : 0 ≤ v_subject_count.toInt) (a1 : v_subject_count.toInt ≤ (nv_subject_items : Int)) (a2 : (nv_subject_items : Int) ≤ 1000) (hq : ∀ (ov_edges : Nat → Bool), Q ov_edges) : w_X3_markEdges p1 v_edges v_subject_count v_subject_items nv_subject_items Q := by
  have q_t : (bz true).toInt = 1 := rfl
  have q_f : (bz false).toInt = 0 := rfl
  have q_0 : (0 : Int32).toInt = 0 := rfl
  unfold w_X3_markEdges
  have j_2 : ∀ n_2 : Nat, ∀ (l2_2 : Int32) (v_edges_2 : Nat → Bool), 0 ≤ l2_2.toInt → ((-1) * l2_2.toInt + 2147483648).toNat < n_2 → w_X3_markEdges_2 p1 v_subject_count v_subject_items nv_subject_items Q n_2 l2_2 v_edges_2 := by
    intro n_2
    induction n_2 with
    | zero =>
      intro l2_2 v_edges_2 f1 hm_2
      exfalso; omega
    | succ n_2 ih_2 =>
      intro l2_2 v_edges_2 f1 hm_2
      unfold w_X3_markEdges_2
      unfold w_X3_markEdges_2B
      refine ⟨fun c8 => ?_, fun c8 => ?_⟩
      · have f2 : 4 ≤ l2_2.toInt := i_le (a := 4) (b := l2_2.toInt) rfl rfl c8
        exact hq v_edges_2 
      · have f3 : l2_2.toInt < 4 := i_nle (a := 4) (b := l2_2.toInt) rfl rfl c8
        refine ok_X11_edgeHolds (by omega) (by omega) (by omega) (fun r22 f4 f5 => ?_)
        refine ⟨i_in (by omega) (by omega), ?_⟩
        intro g25 eg25
        intro x26 ex26
        have f6 : x26.toInt = l2_2.toInt + 1 := i_add (a := l2_2.toInt) (b := 1) ex26 rfl rfl (by omega) (by omega)
        exact ih_2 x26 g25 (by omega) (by have h8_0 := i_rng l2_2; have h8_1 := i_rng x26; omega)
  exact ⟨(2147483648 : Int).toNat + 1, j_2   ((2147483648 : Int).toNat + 1) 0 v_edges (by omega) (by omega)⟩
set_option maxHeartbeats 4000000 in
theorem ok_X3_tell {a1_items : Nat → Int32} {na1_items : Nat} {v_width : Int32} {v_cells : Nat → Int32} {Q : Int32 → Bool → (Nat → Int32) → Prop} (a0 : (na1_items : Int) ≤ 1000) (hq : ∀ (oa1_count : Int32) (oa1_over : Bool) (oa1_items : Nat → Int32), 0 ≤ oa1_count.toInt + 1 → 0 ≤ oa1_count.toInt → oa1_count.toInt ≤ 20 → oa1_count.toInt ≤ 21 → oa1_count.toInt ≤ (na1_items : Int) → Q oa1_count oa1_over oa1_items) : w_X3_tell a1_items na1_items v_width v_cells Q := by
  have q_t : (bz true).toInt = 1 := rfl
  have q_f : (bz false).toInt = 0 := rfl
  have q_0 : (0 : Int32).toInt = 0 := rfl
  unfold w_X3_tell
  refine ok_X7_empty  (fun r1_0 r1_1 f1 f2 => ?_)
  have j_6 : ∀ n_6 : Nat, ∀ (l2_6 : Int32) (a1_count_6 : Int32) (a1_over_6 : Bool) (a1_items_6 : Nat → Int32), l2_6.toInt ≤ 20 → a1_count_6.toInt ≤ l2_6.toInt → 0 ≤ a1_count_6.toInt → a1_count_6.toInt ≤ (na1_items : Int) → ((-1) * l2_6.toInt + 20).toNat < n_6 → w_X3_tell_6 na1_items v_width v_cells Q n_6 l2_6 a1_count_6 a1_over_6 a1_items_6 := by
    intro n_6
    induction n_6 with
    | zero =>
      intro l2_6 a1_count_6 a1_over_6 a1_items_6 f3 f4 f5 f6 hm_6
      exfalso; omega
    | succ n_6 ih_6 =>
      intro l2_6 a1_count_6 a1_over_6 a1_items_6 f3 f4 f5 f6 hm_6
      unfold w_X3_tell_6
      unfold w_X3_tell_6B
      have j_36 : ((v_width.toInt ≤ l2_6.toInt) ∨ (l2_6.toInt + 1 ≤ v_width.toInt ∧ 20 ≤ l2_6.toInt)) → w_X3_tell_36 Q a1_count_6 a1_over_6 a1_items_6 := by
        intro f7
        unfold w_X3_tell_36
        exact hq a1_count_6 a1_over_6 a1_items_6 (by omega) (by omega) (by omega) (by omega) (by omega)
      refine ⟨fun c11 => ?_, fun c11 => ?_⟩
      · have f8 : v_width.toInt ≤ l2_6.toInt := i_le (a := v_width.toInt) (b := l2_6.toInt) rfl rfl c11
        exact j_36  (by omega)
      · have f9 : l2_6.toInt < v_width.toInt := i_nle (a := v_width.toInt) (b := l2_6.toInt) rfl rfl c11
        refine ⟨fun c17 => ?_, fun c17 => ?_⟩
        · have f10 : 20 ≤ l2_6.toInt := i_le (a := 20) (b := l2_6.toInt) rfl rfl c17
          exact j_36  (by omega)
        · have f11 : l2_6.toInt < 20 := i_nle (a := 20) (b := l2_6.toInt) rfl rfl c17
          refine ⟨i_in (by omega) (by omega), ?_⟩
          intro x26 ex26
          refine ok_X7_add (by omega) (by omega) (by omega) (fun r27_0 r27_1 r27_2 f12 f13 f14 f15 => ?_)
          intro x30 ex30
          have f16 : x30.toInt = l2_6.toInt + 1 := i_add (a := l2_6.toInt) (b := 1) ex30 rfl rfl (by omega) (by omega)
          exact ih_6 x30 r27_0 r27_1 r27_2 (by omega) (by omega) (by omega) (by omega) (by have h8_0 := i_rng l2_6; have h8_1 := i_rng x30; omega)
  exact ⟨(20 : Int).toNat + 1, j_6   ((20 : Int).toNat + 1) 0 r1_0 r1_1 a1_items (by omega) (by omega) (by omega) (by omega) (by omega)⟩
set_option maxHeartbeats 4000000 in
theorem ok_X3_isNew {p1 : Int32} {v_stamp : Int32} {v_seen : Nat → Int32} {Q : Int32 → (Nat → Int32) → Prop} (hq : ∀ (r : Int32) (ov_seen : Nat → Int32), ((r.toInt = 1 ∧ 0 ≤ p1.toInt ∧ p1.toInt ≤ 5631) ∨ (r.toInt = 0)) → Q r ov_seen) : w_X3_isNew p1 v_stamp v_seen Q := by
  have q_t : (bz true).toInt = 1 := rfl
  have q_f : (bz false).toInt = 0 := rfl
  have q_0 : (0 : Int32).toInt = 0 := rfl
  have q_1 : (1 : Int32).toInt = 1 := rfl
  unfold w_X3_isNew
  have j_24 : ((p1.toInt + 1 ≤ 0) ∨ (0 ≤ p1.toInt ∧ 5632 ≤ p1.toInt) ∨ (0 ≤ p1.toInt ∧ p1.toInt ≤ 5631)) → w_X3_isNew_24 Q v_seen := by
    intro f1
    unfold w_X3_isNew_24
    exact hq 0 v_seen (by omega)
  refine ⟨fun c1 => ?_, fun c1 => ?_⟩
  · have f2 : p1.toInt < 0 := i_lt (a := p1.toInt) (b := 0) rfl rfl c1
    exact j_24  (by omega)
  · have f3 : 0 ≤ p1.toInt := i_nlt (a := p1.toInt) (b := 0) rfl rfl c1
    refine ⟨fun c8 => ?_, fun c8 => ?_⟩
    · have f4 : 5632 ≤ p1.toInt := i_le (a := 5632) (b := p1.toInt) rfl rfl c8
      exact j_24  (by omega)
    · have f5 : p1.toInt < 5632 := i_nle (a := 5632) (b := p1.toInt) rfl rfl c8
      refine ⟨i_in (by omega) (by omega), ?_⟩
      intro x16 ex16
      refine ⟨fun c21 => ?_, fun c21 => ?_⟩
      · have f6 : x16.toInt ≠ v_stamp.toInt := i_ne (a := x16.toInt) (b := v_stamp.toInt) rfl rfl c21
        refine ⟨i_in (by omega) (by omega), ?_⟩
        intro g35 eg35
        exact hq 1 g35 (by omega)
      · have f7 : x16.toInt = v_stamp.toInt := i_eq (a := x16.toInt) (b := v_stamp.toInt) rfl rfl c21
        exact j_24  (by omega)
set_option maxHeartbeats 4000000 in
theorem ok_X3_push {p1 : Int32} {p2 : Int32} {v_stackCount : Int32} {v_stack : Nat → Int32} {v_kept : Nat → Int32} {Q : Int32 → (Nat → Int32) → (Nat → Int32) → Prop} (hq : ∀ (ov_stackCount : Int32) (ov_stack : Nat → Int32) (ov_kept : Nat → Int32), v_stackCount.toInt ≤ ov_stackCount.toInt → Q ov_stackCount ov_stack ov_kept) : w_X3_push p1 p2 v_stackCount v_stack v_kept Q := by
  have q_t : (bz true).toInt = 1 := rfl
  have q_f : (bz false).toInt = 0 := rfl
  unfold w_X3_push
  have j_47 : ∀ (v_stackCount_47 : Int32) (v_stack_47 : Nat → Int32) (v_kept_47 : Nat → Int32), v_stackCount.toInt ≤ v_stackCount_47.toInt → ((v_stackCount_47.toInt = v_stackCount.toInt ∧ v_stackCount.toInt + 1 ≤ 0) ∨ (v_stackCount_47.toInt = v_stackCount.toInt ∧ 0 ≤ v_stackCount.toInt ∧ 11266 ≤ v_stackCount.toInt) ∨ (0 ≤ v_stackCount.toInt ∧ v_stackCount.toInt ≤ 11265 ∧ v_stackCount_47.toInt = v_stackCount.toInt + 1)) → w_X3_push_47 Q v_stackCount_47 v_stack_47 v_kept_47 := by
    intro v_stackCount_47 v_stack_47 v_kept_47 f1 f2
    unfold w_X3_push_47
    exact hq v_stackCount_47 v_stack_47 v_kept_47 (by omega)
  refine ⟨fun c4 => ?_, fun c4 => ?_⟩
  · have f3 : v_stackCount.toInt < 0 := i_lt (a := v_stackCount.toInt) (b := 0) rfl rfl c4
    exact j_47 v_stackCount v_stack v_kept (by omega) (by omega)
  · have f4 : 0 ≤ v_stackCount.toInt := i_nlt (a := v_stackCount.toInt) (b := 0) rfl rfl c4
    refine ⟨fun c14 => ?_, fun c14 => ?_⟩
    · have f5 : 11266 ≤ v_stackCount.toInt := i_le (a := 11266) (b := v_stackCount.toInt) rfl rfl c14
      exact j_47 v_stackCount v_stack v_kept (by omega) (by omega)
    · have f6 : v_stackCount.toInt < 11266 := i_nle (a := 11266) (b := v_stackCount.toInt) rfl rfl c14
      refine ⟨i_in (by omega) (by omega), ?_⟩
      intro g26 eg26
      refine ⟨i_in (by omega) (by omega), ?_⟩
      intro g36 eg36
      intro x43 ex43
      have f7 : x43.toInt = v_stackCount.toInt + 1 := i_add (a := v_stackCount.toInt) (b := 1) ex43 rfl rfl (by omega) (by omega)
      exact j_47 x43 g26 g36 (by omega) (by omega)
set_option maxHeartbeats 4000000 in
theorem ok_X3_exchangeLists {v_nextCount : Int32} {v_stamp : Int32} {Q : Int32 → Int32 → Int32 → Prop} (hq : ∀ (ov_nowCount : Int32) (ov_nextCount : Int32) (ov_stamp : Int32), ov_nowCount.toInt = v_nextCount.toInt → ov_nextCount.toInt = 0 → Q ov_nowCount ov_nextCount ov_stamp) : w_X3_exchangeLists v_nextCount v_stamp Q := by
  have q_t : (bz true).toInt = 1 := rfl
  have q_f : (bz false).toInt = 0 := rfl
  have q_0 : (0 : Int32).toInt = 0 := rfl
  unfold w_X3_exchangeLists
  intro x400055 ex400055
  exact hq v_nextCount 0 x400055 (by omega) (by omega)
set_option maxHeartbeats 4000000 in
theorem ok_X3_stopAt {p1 : Int32} {v_nextCount : Int32} {v_stamp : Int32} {v_nextAt : Nat → Int32} {v_nextCells : Nat → Int32} {v_waits : Nat → Int32} {v_cells : Nat → Int32} {Q : Int32 → (Nat → Int32) → (Nat → Int32) → (Nat → Int32) → Prop} (hq : ∀ (ov_nextCount : Int32) (ov_nextAt : Nat → Int32) (ov_nextCells : Nat → Int32) (ov_waits : Nat → Int32), v_nextCount.toInt ≤ ov_nextCount.toInt → Q ov_nextCount ov_nextAt ov_nextCells ov_waits) : w_X3_stopAt p1 v_nextCount v_stamp v_nextAt v_nextCells v_waits v_cells Q := by
  have q_t : (bz true).toInt = 1 := rfl
  have q_f : (bz false).toInt = 0 := rfl
  have q_0 : (0 : Int32).toInt = 0 := rfl
  have q_1 : (1 : Int32).toInt = 1 := rfl
  unfold w_X3_stopAt
  have j_29 : ∀ (s0_29 : Int32), ((s0_29.toInt = 1 ∧ 0 ≤ p1.toInt ∧ p1.toInt ≤ 511) ∨ (s0_29.toInt = 0)) → w_X3_stopAt_29 p1 v_stamp v_cells Q s0_29 v_nextCount v_nextAt v_nextCells v_waits := by
    intro s0_29 f1
    unfold w_X3_stopAt_29
    have j_113 : ∀ (v_nextCount_113 : Int32) (v_nextAt_113 : Nat → Int32) (v_nextCells_113 : Nat → Int32) (v_waits_113 : Nat → Int32), v_nextCount.toInt ≤ v_nextCount_113.toInt → w_X3_stopAt_113 Q v_nextCount_113 v_nextAt_113 v_nextCells_113 v_waits_113 := by
      intro v_nextCount_113 v_nextAt_113 v_nextCells_113 v_waits_113 f2
      unfold w_X3_stopAt_113
      exact hq v_nextCount_113 v_nextAt_113 v_nextCells_113 v_waits_113 (by omega)
    refine ⟨fun c31 => ?_, fun c31 => ?_⟩
    · have f3 : s0_29.toInt ≠ 0 := i_ne (a := s0_29.toInt) (b := 0) rfl rfl c31
      exact j_113 v_nextCount v_nextAt v_nextCells v_waits (by omega)
    · have f4 : s0_29.toInt = 0 := i_eq (a := s0_29.toInt) (b := 0) rfl rfl c31
      refine ⟨fun c35 => ?_, fun c35 => ?_⟩
      · have f5 : p1.toInt < 0 := i_lt (a := p1.toInt) (b := 0) rfl rfl c35
        exact j_113 v_nextCount v_nextAt v_nextCells v_waits (by omega)
      · have f6 : 0 ≤ p1.toInt := i_nlt (a := p1.toInt) (b := 0) rfl rfl c35
        refine ⟨fun c42 => ?_, fun c42 => ?_⟩
        · have f7 : 512 ≤ p1.toInt := i_le (a := 512) (b := p1.toInt) rfl rfl c42
          exact j_113 v_nextCount v_nextAt v_nextCells v_waits (by omega)
        · have f8 : p1.toInt < 512 := i_nle (a := 512) (b := p1.toInt) rfl rfl c42
          refine ⟨fun c49 => ?_, fun c49 => ?_⟩
          · have f9 : v_nextCount.toInt < 0 := i_lt (a := v_nextCount.toInt) (b := 0) rfl rfl c49
            exact j_113 v_nextCount v_nextAt v_nextCells v_waits (by omega)
          · have f10 : 0 ≤ v_nextCount.toInt := i_nlt (a := v_nextCount.toInt) (b := 0) rfl rfl c49
            refine ⟨fun c59 => ?_, fun c59 => ?_⟩
            · have f11 : 256 ≤ v_nextCount.toInt := i_le (a := 256) (b := v_nextCount.toInt) rfl rfl c59
              exact j_113 v_nextCount v_nextAt v_nextCells v_waits (by omega)
            · have f12 : v_nextCount.toInt < 256 := i_nle (a := 256) (b := v_nextCount.toInt) rfl rfl c59
              refine ⟨i_in (by omega) (by omega), ?_⟩
              intro g71 eg71
              refine ⟨i_in (by omega) (by omega), ?_⟩
              intro g81 eg81
              intro x97 ex97
              have f13 : x97.toInt = v_nextCount.toInt * 20 := i_mul (a := v_nextCount.toInt) (b := 20) ex97 rfl rfl (by omega) (by omega)
              refine ⟨(i_nn (a := 0) rfl (by omega)), (i_nn (a := x97.toInt) rfl (by omega)), (i_nn (a := 20) rfl (by omega)), i_cp (a := 0) (b := 20) rfl rfl (by omega) (by omega) (by omega), i_cp (a := x97.toInt) (b := 20) rfl rfl (by omega) (by omega) (by omega), ?_⟩
              intro g100 eg100
              intro x109 ex109
              have f14 : x109.toInt = v_nextCount.toInt + 1 := i_add (a := v_nextCount.toInt) (b := 1) ex109 rfl rfl (by omega) (by omega)
              exact j_113 x109 g81 g100 g71 (by omega)
  have j_28 : ((p1.toInt + 1 ≤ 0) ∨ (0 ≤ p1.toInt ∧ 512 ≤ p1.toInt) ∨ (0 ≤ p1.toInt ∧ p1.toInt ≤ 511)) → w_X3_stopAt_28 p1 v_stamp v_cells Q v_nextCount v_nextAt v_nextCells v_waits := by
    intro f15
    unfold w_X3_stopAt_28
    exact j_29 0 (by omega)
  refine ⟨fun c1 => ?_, fun c1 => ?_⟩
  · have f16 : p1.toInt < 0 := i_lt (a := p1.toInt) (b := 0) rfl rfl c1
    exact j_28  (by omega)
  · have f17 : 0 ≤ p1.toInt := i_nlt (a := p1.toInt) (b := 0) rfl rfl c1
    refine ⟨fun c8 => ?_, fun c8 => ?_⟩
    · have f18 : 512 ≤ p1.toInt := i_le (a := 512) (b := p1.toInt) rfl rfl c8
      exact j_28  (by omega)
    · have f19 : p1.toInt < 512 := i_nle (a := 512) (b := p1.toInt) rfl rfl c8
      refine ⟨i_in (by omega) (by omega), ?_⟩
      intro x16 ex16
      refine ⟨fun c21 => ?_, fun c21 => ?_⟩
      · have f20 : x16.toInt ≠ v_stamp.toInt := i_ne (a := x16.toInt) (b := v_stamp.toInt) rfl rfl c21
        exact j_28  (by omega)
      · have f21 : x16.toInt = v_stamp.toInt := i_eq (a := x16.toInt) (b := v_stamp.toInt) rfl rfl c21
        exact j_29 1 (by omega)
set_option maxHeartbeats 4000000 in
theorem ok_X3_spreadOne {p1 : Int32} {p2 : Int32} {p3 : Int32} {v_nextCount : Int32} {v_stamp : Int32} {v_stackCount : Int32} {v_program_count : Int32} {v_program_kinds : Nat → Int32} {v_program_subjects : Nat → Int32} {v_program_nexts : Nat → Int32} {v_program_others : Nat → Int32} {v_edges : Nat → Bool} {v_nextAt : Nat → Int32} {v_nextCells : Nat → Int32} {v_waits : Nat → Int32} {v_cells : Nat → Int32} {v_stack : Nat → Int32} {v_kept : Nat → Int32} {Q : Int32 → Int32 → (Nat → Int32) → (Nat → Int32) → (Nat → Int32) → (Nat → Int32) → (Nat → Int32) → (Nat → Int32) → Prop} (a0 : 0 ≤ v_program_count.toInt) (a1 : v_program_count.toInt ≤ 512) (hq : ∀ (ov_nextCount : Int32) (ov_stackCount : Int32) (ov_nextAt : Nat → Int32) (ov_nextCells : Nat → Int32) (ov_waits : Nat → Int32) (ov_cells : Nat → Int32) (ov_stack : Nat → Int32) (ov_kept : Nat → Int32), v_nextCount.toInt ≤ ov_nextCount.toInt → v_stackCount.toInt ≤ ov_stackCount.toInt → Q ov_nextCount ov_stackCount ov_nextAt ov_nextCells ov_waits ov_cells ov_stack ov_kept) : w_X3_spreadOne p1 p2 p3 v_nextCount v_stamp v_stackCount v_program_count v_program_kinds v_program_subjects v_program_nexts v_program_others v_edges v_nextAt v_nextCells v_waits v_cells v_stack v_kept Q := by
  have q_t : (bz true).toInt = 1 := rfl
  have q_f : (bz false).toInt = 0 := rfl
  have q_0 : (0 : Int32).toInt = 0 := rfl
  have q_1 : (1 : Int32).toInt = 1 := rfl
  have q_2 : (2 : Int32).toInt = 2 := rfl
  unfold w_X3_spreadOne
  refine ok_X5_nextOf (by omega) (by omega) (fun r5 f1 => ?_)
  refine ok_X5_kindOf (by omega) (by omega) (fun r15 f2 => ?_)
  have j_210 : ∀ (v_nextCount_210 : Int32) (v_stackCount_210 : Int32) (v_nextAt_210 : Nat → Int32) (v_nextCells_210 : Nat → Int32) (v_waits_210 : Nat → Int32) (v_cells_210 : Nat → Int32) (v_stack_210 : Nat → Int32) (v_kept_210 : Nat → Int32), v_nextCount.toInt ≤ v_nextCount_210.toInt → v_stackCount.toInt ≤ v_stackCount_210.toInt → w_X3_spreadOne_210 Q v_nextCount_210 v_stackCount_210 v_nextAt_210 v_nextCells_210 v_waits_210 v_cells_210 v_stack_210 v_kept_210 := by
    intro v_nextCount_210 v_stackCount_210 v_nextAt_210 v_nextCells_210 v_waits_210 v_cells_210 v_stack_210 v_kept_210 f3 f4
    unfold w_X3_spreadOne_210
    exact hq v_nextCount_210 v_stackCount_210 v_nextAt_210 v_nextCells_210 v_waits_210 v_cells_210 v_stack_210 v_kept_210 (by omega) (by omega)
  have j_144 : ((r15.toInt = 2) ∨ (r15.toInt = 3)) → w_X3_spreadOne_144 p1 p2 p3 v_program_count v_program_kinds v_program_subjects Q r5 v_nextCount v_stackCount v_nextAt v_nextCells v_waits v_cells v_stack v_kept := by
    intro f5
    unfold w_X3_spreadOne_144
    refine ok_X5_subjectOf (by omega) (by omega) (fun r150 f6 => ?_)
    intro x153 ex153
    refine ok_X5_kindOf (by omega) (by omega) (fun r159 f7 => ?_)
    have j_171 : ∀ (s0_171 : Int32), ((s0_171.toInt = 1) ∨ (s0_171.toInt = 0 ∧ r159.toInt = 2)) → w_X3_spreadOne_171 p2 p3 Q s0_171 x153 r5 v_nextCount v_stackCount v_nextAt v_nextCells v_waits v_cells v_stack v_kept := by
      intro s0_171 f8
      unfold w_X3_spreadOne_171
      intro x171 ex171
      intro x178 ex178
      have f9 : x178.toInt = (-1) - x171.toInt := i_sub (a := (-1)) (b := x171.toInt) ex178 rfl rfl (by have h8_0 := i_rng x171; omega) (by have h8_0 := i_rng x171; omega)
      refine ok_X3_cellAt  (fun r182 f10 => ?_)
      refine ok_X3_push  (fun r185_0 r185_1 r185_2 f11 => ?_)
      refine ok_X3_setCell  (fun r192_0 => ?_)
      refine ok_X3_push  (fun r199_0 r199_1 r199_2 f12 => ?_)
      exact j_210 v_nextCount r199_0 v_nextAt v_nextCells v_waits r192_0 r199_1 r199_2 (by omega) (by omega)
    refine ⟨fun c163 => ?_, fun c163 => ?_⟩
    · have f13 : r159.toInt ≠ 2 := i_ne (a := r159.toInt) (b := 2) rfl rfl c163
      exact j_171 1 (by omega)
    · have f14 : r159.toInt = 2 := i_eq (a := r159.toInt) (b := 2) rfl rfl c163
      exact j_171 0 (by omega)
  refine ⟨fun c18_0 => ?_, fun c18_1 => ?_, fun c18_2 => ?_, fun c18_3 => ?_, fun c18_4 => ?_, ?_⟩
  · have f15 : r15.toInt = 1 := i_eq (a := r15.toInt) (b := 1) rfl rfl c18_0
    refine ok_X5_subjectOf (by omega) (by omega) (fun r57 f16 => ?_)
    refine ⟨fun c64 => ?_, fun c64 => ?_⟩
    · have f17 : r57.toInt < 0 := i_lt (a := r57.toInt) (b := 0) rfl rfl c64
      exact j_210 v_nextCount v_stackCount v_nextAt v_nextCells v_waits v_cells v_stack v_kept (by omega) (by omega)
    · have f18 : 0 ≤ r57.toInt := i_nlt (a := r57.toInt) (b := 0) rfl rfl c64
      refine ⟨fun c74 => ?_, fun c74 => ?_⟩
      · have f19 : 4 ≤ r57.toInt := i_le (a := 4) (b := r57.toInt) rfl rfl c74
        exact j_210 v_nextCount v_stackCount v_nextAt v_nextCells v_waits v_cells v_stack v_kept (by omega) (by omega)
      · have f20 : r57.toInt < 4 := i_nle (a := 4) (b := r57.toInt) rfl rfl c74
        refine ⟨i_in (by omega) (by omega), ?_⟩
        intro x83 ex83
        have f21 : (0 ≤ x83.toInt ∧ x83.toInt ≤ 1) := i_bz ex83
        refine ⟨fun c84 => ?_, fun c84 => ?_⟩
        · have f22 : x83.toInt = 0 := i_eq (a := x83.toInt) (b := 0) rfl rfl c84
          exact j_210 v_nextCount v_stackCount v_nextAt v_nextCells v_waits v_cells v_stack v_kept (by omega) (by omega)
        · have f23 : x83.toInt ≠ 0 := i_ne (a := x83.toInt) (b := 0) rfl rfl c84
          refine ok_X3_push  (fun r91_0 r91_1 r91_2 f24 => ?_)
          exact j_210 v_nextCount r91_0 v_nextAt v_nextCells v_waits v_cells r91_1 r91_2 (by omega) (by omega)
  · have f25 : r15.toInt = 2 := i_eq (a := r15.toInt) (b := 2) rfl rfl c18_1
    exact j_144  (by omega)
  · have f26 : r15.toInt = 3 := i_eq (a := r15.toInt) (b := 3) rfl rfl c18_2
    exact j_144  (by omega)
  · have f27 : r15.toInt = 4 := i_eq (a := r15.toInt) (b := 4) rfl rfl c18_3
    refine ok_X5_otherOf (by omega) (by omega) (fun r103 f28 => ?_)
    refine ok_X3_push  (fun r107_0 r107_1 r107_2 f29 => ?_)
    refine ok_X3_push  (fun r114_0 r114_1 r114_2 f30 => ?_)
    exact j_210 v_nextCount r114_0 v_nextAt v_nextCells v_waits v_cells r114_1 r114_2 (by omega) (by omega)
  · have f31 : r15.toInt = 5 := i_eq (a := r15.toInt) (b := 5) rfl rfl c18_4
    refine ok_X5_otherOf (by omega) (by omega) (fun r126 f32 => ?_)
    refine ⟨fun c129 => ?_, fun c129 => ?_⟩
    · have f33 : p2.toInt < r126.toInt := i_lt (a := p2.toInt) (b := r126.toInt) rfl rfl c129
      exact j_210 v_nextCount v_stackCount v_nextAt v_nextCells v_waits v_cells v_stack v_kept (by omega) (by omega)
    · have f34 : r126.toInt ≤ p2.toInt := i_nlt (a := p2.toInt) (b := r126.toInt) rfl rfl c129
      intro x137 ex137
      refine ok_X3_push  (fun r138_0 r138_1 r138_2 f35 => ?_)
      exact j_210 v_nextCount r138_0 v_nextAt v_nextCells v_waits v_cells r138_1 r138_2 (by omega) (by omega)
  · intro c18_0 c18_1 c18_2 c18_3 c18_4
    have f36 : r15.toInt ≠ 1 := i_ne (a := r15.toInt) (b := 1) rfl rfl c18_0
    have f37 : r15.toInt ≠ 2 := i_ne (a := r15.toInt) (b := 2) rfl rfl c18_1
    have f38 : r15.toInt ≠ 3 := i_ne (a := r15.toInt) (b := 3) rfl rfl c18_2
    have f39 : r15.toInt ≠ 4 := i_ne (a := r15.toInt) (b := 4) rfl rfl c18_3
    have f40 : r15.toInt ≠ 5 := i_ne (a := r15.toInt) (b := 5) rfl rfl c18_4
    refine ok_X3_stopAt  (fun r207_0 r207_1 r207_2 r207_3 f41 => ?_)
    exact j_210 r207_0 v_stackCount r207_1 r207_2 r207_3 v_cells v_stack v_kept (by omega) (by omega)

set_option maxHeartbeats 4000000 in
theorem ok_X3_spread {p1 : Int32} {p2 : Int32} {p3 : Int32} {v_nextCount : Int32} {v_stamp : Int32} {v_program_count : Int32} {v_program_kinds : Nat → Int32} {v_program_subjects : Nat → Int32} {v_program_nexts : Nat → Int32} {v_program_others : Nat → Int32} {v_edges : Nat → Bool} {v_nextAt : Nat → Int32} {v_nextCells : Nat → Int32} {v_seen : Nat → Int32} {v_waits : Nat → Int32} {v_cells : Nat → Int32} {v_stack : Nat → Int32} {v_kept : Nat → Int32} {Q : Int32 → Int32 → (Nat → Int32) → (Nat → Int32) → (Nat → Int32) → (Nat → Int32) → (Nat → Int32) → (Nat → Int32) → (Nat → Int32) → Prop} (a0 : 0 ≤ v_program_count.toInt) (a1 : v_program_count.toInt ≤ 512) (hq : ∀ (ov_nextCount : Int32) (ov_stackCount : Int32) (ov_nextAt : Nat → Int32) (ov_nextCells : Nat → Int32) (ov_seen : Nat → Int32) (ov_waits : Nat → Int32) (ov_cells : Nat → Int32) (ov_stack : Nat → Int32) (ov_kept : Nat → Int32), v_nextCount.toInt ≤ ov_nextCount.toInt → 0 ≤ ov_stackCount.toInt + 1 → 0 ≤ ov_stackCount.toInt → Q ov_nextCount ov_stackCount ov_nextAt ov_nextCells ov_seen ov_waits ov_cells ov_stack ov_kept) : w_X3_spread p1 p2 p3 v_nextCount v_stamp v_program_count v_program_kinds v_program_subjects v_program_nexts v_program_others v_edges v_nextAt v_nextCells v_seen v_waits v_cells v_stack v_kept Q := by
  have q_t : (bz true).toInt = 1 := rfl
  have q_f : (bz false).toInt = 0 := rfl
  have q_0 : (0 : Int32).toInt = 0 := rfl
  unfold w_X3_spread
  refine ok_X3_push  (fun r8_0 r8_1 r8_2 f1 => ?_)
  have j_14 : ∀ n_14 : Nat, ∀ (l4_14 : Int32) (v_nextCount_14 : Int32) (v_stackCount_14 : Int32) (v_nextAt_14 : Nat → Int32) (v_nextCells_14 : Nat → Int32) (v_seen_14 : Nat → Int32) (v_waits_14 : Nat → Int32) (v_cells_14 : Nat → Int32) (v_stack_14 : Nat → Int32) (v_kept_14 : Nat → Int32), 0 ≤ l4_14.toInt → l4_14.toInt ≤ 11266 → v_nextCount.toInt ≤ v_nextCount_14.toInt → 0 ≤ v_stackCount_14.toInt → ((-1) * l4_14.toInt + 11266).toNat < n_14 → w_X3_spread_14 p3 v_stamp v_program_count v_program_kinds v_program_subjects v_program_nexts v_program_others v_edges Q n_14 l4_14 v_nextCount_14 v_stackCount_14 v_nextAt_14 v_nextCells_14 v_seen_14 v_waits_14 v_cells_14 v_stack_14 v_kept_14 := by
    intro n_14
    induction n_14 with
    | zero =>
      intro l4_14 v_nextCount_14 v_stackCount_14 v_nextAt_14 v_nextCells_14 v_seen_14 v_waits_14 v_cells_14 v_stack_14 v_kept_14 f2 f3 f4 f5 hm_14
      exfalso; omega
    | succ n_14 ih_14 =>
      intro l4_14 v_nextCount_14 v_stackCount_14 v_nextAt_14 v_nextCells_14 v_seen_14 v_waits_14 v_cells_14 v_stack_14 v_kept_14 f2 f3 f4 f5 hm_14
      unfold w_X3_spread_14
      unfold w_X3_spread_14B
      have j_119 : ((11266 ≤ l4_14.toInt) ∨ (l4_14.toInt ≤ 11265 ∧ v_stackCount_14.toInt ≤ 0) ∨ (l4_14.toInt ≤ 11265 ∧ 1 ≤ v_stackCount_14.toInt ∧ 11267 ≤ v_stackCount_14.toInt)) → w_X3_spread_119 Q v_nextCount_14 v_stackCount_14 v_nextAt_14 v_nextCells_14 v_seen_14 v_waits_14 v_cells_14 v_stack_14 v_kept_14 := by
        intro f6
        unfold w_X3_spread_119
        exact hq v_nextCount_14 v_stackCount_14 v_nextAt_14 v_nextCells_14 v_seen_14 v_waits_14 v_cells_14 v_stack_14 v_kept_14 (by omega) (by omega) (by omega)
      refine ⟨fun c19 => ?_, fun c19 => ?_⟩
      · have f7 : 11266 ≤ l4_14.toInt := i_le (a := 11266) (b := l4_14.toInt) rfl rfl c19
        exact j_119  (by omega)
      · have f8 : l4_14.toInt < 11266 := i_nle (a := 11266) (b := l4_14.toInt) rfl rfl c19
        refine ⟨fun c26 => ?_, fun c26 => ?_⟩
        · have f9 : v_stackCount_14.toInt ≤ 0 := i_le (a := v_stackCount_14.toInt) (b := 0) rfl rfl c26
          exact j_119  (by omega)
        · have f10 : 0 < v_stackCount_14.toInt := i_nle (a := v_stackCount_14.toInt) (b := 0) rfl rfl c26
          refine ⟨fun c36 => ?_, fun c36 => ?_⟩
          · have f11 : 11266 < v_stackCount_14.toInt := i_lt (a := 11266) (b := v_stackCount_14.toInt) rfl rfl c36
            exact j_119  (by omega)
          · have f12 : v_stackCount_14.toInt ≤ 11266 := i_nlt (a := 11266) (b := v_stackCount_14.toInt) rfl rfl c36
            intro x45 ex45
            have f13 : x45.toInt = v_stackCount_14.toInt - 1 := i_sub (a := v_stackCount_14.toInt) (b := 1) ex45 rfl rfl (by omega) (by omega)
            refine ⟨i_in (by omega) (by omega), ?_⟩
            intro x57 ex57
            refine ⟨i_in (by omega) (by omega), ?_⟩
            intro x68 ex68
            have j_113 : ∀ (v_nextCount_113 : Int32) (v_stackCount_113 : Int32) (v_nextAt_113 : Nat → Int32) (v_nextCells_113 : Nat → Int32) (v_seen_113 : Nat → Int32) (v_waits_113 : Nat → Int32) (v_cells_113 : Nat → Int32) (v_stack_113 : Nat → Int32) (v_kept_113 : Nat → Int32), v_nextCount.toInt ≤ v_nextCount_113.toInt → v_nextCount_14.toInt ≤ v_nextCount_113.toInt → v_stackCount_14.toInt ≤ v_stackCount_113.toInt + 1 → ((v_nextCount_113.toInt = v_nextCount_14.toInt ∧ v_stackCount_113.toInt = x45.toInt) ∨ (v_nextCount_14.toInt ≤ v_nextCount_113.toInt ∧ x45.toInt ≤ v_stackCount_113.toInt)) → w_X3_spread_113 Q (w_X3_spread_14 p3 v_stamp v_program_count v_program_kinds v_program_subjects v_program_nexts v_program_others v_edges Q n_14) l4_14 v_nextCount_113 v_stackCount_113 v_nextAt_113 v_nextCells_113 v_seen_113 v_waits_113 v_cells_113 v_stack_113 v_kept_113 := by
              intro v_nextCount_113 v_stackCount_113 v_nextAt_113 v_nextCells_113 v_seen_113 v_waits_113 v_cells_113 v_stack_113 v_kept_113 f14 f15 f16 f17
              unfold w_X3_spread_113
              intro x113 ex113
              have f18 : x113.toInt = l4_14.toInt + 1 := i_add (a := l4_14.toInt) (b := 1) ex113 rfl rfl (by omega) (by omega)
              exact ih_14 x113 v_nextCount_113 v_stackCount_113 v_nextAt_113 v_nextCells_113 v_seen_113 v_waits_113 v_cells_113 v_stack_113 v_kept_113 (by omega) (by omega) (by omega) (by omega) (by have h8_0 := i_rng l4_14; have h8_1 := i_rng x113; omega)
            refine ⟨fun c73 => ?_, fun c73 => ?_⟩
            · have f19 : 0 ≤ x57.toInt := i_le (a := 0) (b := x57.toInt) rfl rfl c73
              intro x94 ex94
              intro x97 ex97
              refine ok_X3_isNew  (fun r98 r98_0 f20 => ?_)
              refine ⟨fun c101 => ?_, fun c101 => ?_⟩
              · have f21 : r98.toInt = 0 := i_eq (a := r98.toInt) (b := 0) rfl rfl c101
                exact j_113 v_nextCount_14 x45 v_nextAt_14 v_nextCells_14 r98_0 v_waits_14 v_cells_14 v_stack_14 v_kept_14 (by omega) (by omega) (by omega) (by omega)
              · have f22 : r98.toInt ≠ 0 := i_ne (a := r98.toInt) (b := 0) rfl rfl c101
                refine ok_X3_spreadOne (by omega) (by omega) (fun r110_0 r110_1 r110_2 r110_3 r110_4 r110_5 r110_6 r110_7 f23 f24 => ?_)
                exact j_113 r110_0 r110_1 r110_2 r110_3 r98_0 r110_4 r110_5 r110_6 r110_7 (by omega) (by omega) (by omega) (by omega)
            · have f25 : x57.toInt < 0 := i_nle (a := 0) (b := x57.toInt) rfl rfl c73
              intro x80 ex80
              have f26 : x80.toInt = (-1) - x57.toInt := i_sub (a := (-1)) (b := x57.toInt) ex80 rfl rfl (by omega) (by have h8_0 := i_rng x57; omega)
              refine ok_X3_setCell  (fun r83_0 => ?_)
              exact j_113 v_nextCount_14 x45 v_nextAt_14 v_nextCells_14 v_seen_14 v_waits_14 r83_0 v_stack_14 v_kept_14 (by omega) (by omega) (by omega) (by omega)
  exact ⟨(11266 : Int).toNat + 1, j_14   ((11266 : Int).toNat + 1) 0 v_nextCount r8_0 v_nextAt v_nextCells v_seen v_waits v_cells r8_1 r8_2 (by omega) (by omega) (by omega) (by omega) (by omega)⟩
set_option maxHeartbeats 4000000 in
theorem ok_X3_goAlong {p1 : Int32} {p2 : Int32} {a3_count : Int32} {a3_over : Bool} {a3_items : Nat → Int32} {na3_items : Nat} {v_width : Int32} {v_nowCount : Int32} {v_nextCount : Int32} {v_stamp : Int32} {v_stackCount : Int32} {v_program_count : Int32} {v_program_kinds : Nat → Int32} {v_program_subjects : Nat → Int32} {v_program_nexts : Nat → Int32} {v_program_others : Nat → Int32} {v_edges : Nat → Bool} {v_nowAt : Nat → Int32} {v_nowCells : Nat → Int32} {v_nextAt : Nat → Int32} {v_nextCells : Nat → Int32} {v_seen : Nat → Int32} {v_waits : Nat → Int32} {v_cells : Nat → Int32} {v_stack : Nat → Int32} {v_kept : Nat → Int32} {v_program_tree_count : Int32} {v_program_tree_ranges : Int32} {v_program_tree_sort : Nat → Int32} {v_program_tree_value : Nat → Int32} {v_program_tree_low : Nat → Int32} {v_program_tree_high : Nat → Int32} {v_program_tree_withinCase : Nat → Bool} {v_program_tree_rangeBegin : Nat → Int32} {v_program_tree_rangeEnd : Nat → Int32} {v_subject_count : Int32} {v_subject_items : Nat → Int32} {nv_subject_items : Nat} {Q : Int32 → Int32 → Bool → (Nat → Int32) → Int32 → Int32 → (Nat → Int32) → (Nat → Int32) → (Nat → Int32) → (Nat → Int32) → (Nat → Int32) → (Nat → Int32) → (Nat → Int32) → Prop} (a0 : 0 ≤ a3_count.toInt) (a1 : a3_count.toInt ≤ (na3_items : Int)) (a2 : (na3_items : Int) ≤ 1000) (a3 : 0 ≤ v_program_count.toInt) (a4 : v_program_count.toInt ≤ 512) (a5 : 0 ≤ v_program_tree_count.toInt) (a6 : v_program_tree_count.toInt ≤ 256) (a7 : 0 ≤ v_program_tree_ranges.toInt) (a8 : v_program_tree_ranges.toInt ≤ 512) (a9 : 0 ≤ v_subject_count.toInt) (a10 : v_subject_count.toInt ≤ (nv_subject_items : Int)) (a11 : (nv_subject_items : Int) ≤ 1000) (a12 : 0 ≤ p2.toInt) (a13 : p2.toInt ≤ 1) (hq : ∀ (r : Int32) (oa3_count : Int32) (oa3_over : Bool) (oa3_items : Nat → Int32) (ov_nextCount : Int32) (ov_stackCount : Int32) (ov_nextAt : Nat → Int32) (ov_nextCells : Nat → Int32) (ov_seen : Nat → Int32) (ov_waits : Nat → Int32) (ov_cells : Nat → Int32) (ov_stack : Nat → Int32) (ov_kept : Nat → Int32), v_nextCount.toInt ≤ ov_nextCount.toInt → ((r.toInt = 1 ∧ 0 ≤ oa3_count.toInt + 1 ∧ 0 ≤ oa3_count.toInt ∧ oa3_count.toInt ≤ 20 ∧ oa3_count.toInt ≤ 21 ∧ oa3_count.toInt ≤ (na3_items : Int)) ∨ (r.toInt = 0 ∧ oa3_count.toInt = a3_count.toInt ∧ (bz oa3_over).toInt = (bz a3_over).toInt)) → Q r oa3_count oa3_over oa3_items ov_nextCount ov_stackCount ov_nextAt ov_nextCells ov_seen ov_waits ov_cells ov_stack ov_kept) : w_X3_goAlong p1 p2 a3_count a3_over a3_items na3_items v_width v_nowCount v_nextCount v_stamp v_stackCount v_program_count v_program_kinds v_program_subjects v_program_nexts v_program_others v_edges v_nowAt v_nowCells v_nextAt v_nextCells v_seen v_waits v_cells v_stack v_kept v_program_tree_count v_program_tree_ranges v_program_tree_sort v_program_tree_value v_program_tree_low v_program_tree_high v_program_tree_withinCase v_program_tree_rangeBegin v_program_tree_rangeEnd v_subject_count v_subject_items nv_subject_items Q := by
  have q_t : (bz true).toInt = 1 := rfl
  have q_f : (bz false).toInt = 0 := rfl
  have q_0 : (0 : Int32).toInt = 0 := rfl
  have q_1 : (1 : Int32).toInt = 1 := rfl
  unfold w_X3_goAlong
  have j_3 : ∀ n_3 : Nat, ∀ (l4_3 : Int32) (v_nextCount_3 : Int32) (v_stackCount_3 : Int32) (v_nextAt_3 : Nat → Int32) (v_nextCells_3 : Nat → Int32) (v_seen_3 : Nat → Int32) (v_waits_3 : Nat → Int32) (v_cells_3 : Nat → Int32) (v_stack_3 : Nat → Int32) (v_kept_3 : Nat → Int32), 0 ≤ l4_3.toInt → l4_3.toInt ≤ 256 → v_nextCount.toInt ≤ v_nextCount_3.toInt → ((-1) * l4_3.toInt + 256).toNat < n_3 → w_X3_goAlong_3 p1 p2 na3_items v_width v_nowCount v_stamp v_program_count v_program_kinds v_program_subjects v_program_nexts v_program_others v_edges v_nowAt v_nowCells v_program_tree_count v_program_tree_ranges v_program_tree_sort v_program_tree_value v_program_tree_low v_program_tree_high v_program_tree_withinCase v_program_tree_rangeBegin v_program_tree_rangeEnd v_subject_count v_subject_items nv_subject_items Q a3_count a3_over a3_items n_3 l4_3 v_nextCount_3 v_stackCount_3 v_nextAt_3 v_nextCells_3 v_seen_3 v_waits_3 v_cells_3 v_stack_3 v_kept_3 := by
    intro n_3
    induction n_3 with
    | zero =>
      intro l4_3 v_nextCount_3 v_stackCount_3 v_nextAt_3 v_nextCells_3 v_seen_3 v_waits_3 v_cells_3 v_stack_3 v_kept_3 f1 f2 f3 hm_3
      exfalso; omega
    | succ n_3 ih_3 =>
      intro l4_3 v_nextCount_3 v_stackCount_3 v_nextAt_3 v_nextCells_3 v_seen_3 v_waits_3 v_cells_3 v_stack_3 v_kept_3 f1 f2 f3 hm_3
      unfold w_X3_goAlong_3
      unfold w_X3_goAlong_3B
      have j_156 : ((v_nowCount.toInt ≤ l4_3.toInt) ∨ (l4_3.toInt + 1 ≤ v_nowCount.toInt ∧ 256 ≤ l4_3.toInt)) → w_X3_goAlong_156 Q a3_count a3_over a3_items v_nextCount_3 v_stackCount_3 v_nextAt_3 v_nextCells_3 v_seen_3 v_waits_3 v_cells_3 v_stack_3 v_kept_3 := by
        intro f4
        unfold w_X3_goAlong_156
        exact hq 0 a3_count a3_over a3_items v_nextCount_3 v_stackCount_3 v_nextAt_3 v_nextCells_3 v_seen_3 v_waits_3 v_cells_3 v_stack_3 v_kept_3 (by omega) (by omega)
      refine ⟨fun c9 => ?_, fun c9 => ?_⟩
      · have f5 : v_nowCount.toInt ≤ l4_3.toInt := i_le (a := v_nowCount.toInt) (b := l4_3.toInt) rfl rfl c9
        exact j_156  (by omega)
      · have f6 : l4_3.toInt < v_nowCount.toInt := i_nle (a := v_nowCount.toInt) (b := l4_3.toInt) rfl rfl c9
        refine ⟨fun c17 => ?_, fun c17 => ?_⟩
        · have f7 : 256 ≤ l4_3.toInt := i_le (a := 256) (b := l4_3.toInt) rfl rfl c17
          exact j_156  (by omega)
        · have f8 : l4_3.toInt < 256 := i_nle (a := 256) (b := l4_3.toInt) rfl rfl c17
          refine ⟨i_in (by omega) (by omega), ?_⟩
          intro x26 ex26
          intro x37 ex37
          have f9 : x37.toInt = l4_3.toInt * 20 := i_mul (a := l4_3.toInt) (b := 20) ex37 rfl rfl (by omega) (by omega)
          refine ⟨(i_nn (a := x37.toInt) rfl (by omega)), (i_nn (a := 0) rfl (by omega)), (i_nn (a := 20) rfl (by omega)), i_cp (a := x37.toInt) (b := 20) rfl rfl (by omega) (by omega) (by omega), i_cp (a := 0) (b := 20) rfl rfl (by omega) (by omega) (by omega), ?_⟩
          intro g45 eg45
          refine ok_X5_kindOf (by omega) (by omega) (fun r54 f10 => ?_)
          have j_150 : ∀ (v_nextCount_150 : Int32) (v_stackCount_150 : Int32) (v_nextAt_150 : Nat → Int32) (v_nextCells_150 : Nat → Int32) (v_seen_150 : Nat → Int32) (v_waits_150 : Nat → Int32) (v_cells_150 : Nat → Int32) (v_stack_150 : Nat → Int32) (v_kept_150 : Nat → Int32), v_nextCount.toInt ≤ v_nextCount_150.toInt → v_nextCount_3.toInt ≤ v_nextCount_150.toInt → w_X3_goAlong_150 Q (w_X3_goAlong_3 p1 p2 na3_items v_width v_nowCount v_stamp v_program_count v_program_kinds v_program_subjects v_program_nexts v_program_others v_edges v_nowAt v_nowCells v_program_tree_count v_program_tree_ranges v_program_tree_sort v_program_tree_value v_program_tree_low v_program_tree_high v_program_tree_withinCase v_program_tree_rangeBegin v_program_tree_rangeEnd v_subject_count v_subject_items nv_subject_items Q a3_count a3_over a3_items n_3) l4_3 v_nextCount_150 v_stackCount_150 v_nextAt_150 v_nextCells_150 v_seen_150 v_waits_150 v_cells_150 v_stack_150 v_kept_150 := by
            intro v_nextCount_150 v_stackCount_150 v_nextAt_150 v_nextCells_150 v_seen_150 v_waits_150 v_cells_150 v_stack_150 v_kept_150 f11 f12
            unfold w_X3_goAlong_150
            intro x150 ex150
            have f13 : x150.toInt = l4_3.toInt + 1 := i_add (a := l4_3.toInt) (b := 1) ex150 rfl rfl (by omega) (by omega)
            exact ih_3 x150 v_nextCount_150 v_stackCount_150 v_nextAt_150 v_nextCells_150 v_seen_150 v_waits_150 v_cells_150 v_stack_150 v_kept_150 (by omega) (by omega) (by omega) (by have h8_0 := i_rng l4_3; have h8_1 := i_rng x150; omega)
          refine ⟨fun c59 => ?_, fun c59 => ?_⟩
          · have f14 : r54.toInt = 6 := i_eq (a := r54.toInt) (b := 6) rfl rfl c59
            have j_136 : ((p2.toInt = 0) ∨ (p1.toInt = v_subject_count.toInt)) → w_X3_goAlong_136 p1 na3_items v_width Q a3_count a3_over a3_items v_nextCount_3 v_stackCount_3 v_nextAt_3 v_nextCells_3 v_seen_3 v_waits_3 g45 v_stack_3 v_kept_3 := by
              intro f15
              unfold w_X3_goAlong_136
              intro g142 eg142
              refine ok_X3_tell (by omega) (fun r145_0 r145_1 r145_2 f16 f17 f18 f19 f20 => ?_)
              exact hq 1 r145_0 r145_1 r145_2 v_nextCount_3 v_stackCount_3 v_nextAt_3 v_nextCells_3 v_seen_3 v_waits_3 g142 v_stack_3 v_kept_3 (by omega) (by omega)
            refine ⟨fun c122 => ?_, fun c122 => ?_⟩
            · have f21 : p2.toInt = 0 := i_eq (a := p2.toInt) (b := 0) rfl rfl c122
              exact j_136  (by omega)
            · have f22 : p2.toInt ≠ 0 := i_ne (a := p2.toInt) (b := 0) rfl rfl c122
              refine ⟨fun c133 => ?_, fun c133 => ?_⟩
              · have f23 : p1.toInt ≠ v_subject_count.toInt := i_ne (a := p1.toInt) (b := v_subject_count.toInt) rfl rfl c133
                exact j_150 v_nextCount_3 v_stackCount_3 v_nextAt_3 v_nextCells_3 v_seen_3 v_waits_3 g45 v_stack_3 v_kept_3 (by omega) (by omega)
              · have f24 : p1.toInt = v_subject_count.toInt := i_eq (a := p1.toInt) (b := v_subject_count.toInt) rfl rfl c133
                exact j_136  (by omega)
          · have f25 : r54.toInt ≠ 6 := i_ne (a := r54.toInt) (b := 6) rfl rfl c59
            refine ⟨fun c70 => ?_, fun c70 => ?_⟩
            · have f26 : v_subject_count.toInt ≤ p1.toInt := i_le (a := v_subject_count.toInt) (b := p1.toInt) rfl rfl c70
              exact j_150 v_nextCount_3 v_stackCount_3 v_nextAt_3 v_nextCells_3 v_seen_3 v_waits_3 g45 v_stack_3 v_kept_3 (by omega) (by omega)
            · have f27 : p1.toInt < v_subject_count.toInt := i_nle (a := v_subject_count.toInt) (b := p1.toInt) rfl rfl c70
              refine ok_X7_at (by omega) (by omega) (by omega) (fun r84 f28 => ?_)
              refine ok_X5_takes (by omega) (by omega) (by omega) (by omega) (by omega) (by omega) (fun r87 f29 f30 => ?_)
              refine ⟨fun c90 => ?_, fun c90 => ?_⟩
              · have f31 : r87.toInt = 0 := i_eq (a := r87.toInt) (b := 0) rfl rfl c90
                exact j_150 v_nextCount_3 v_stackCount_3 v_nextAt_3 v_nextCells_3 v_seen_3 v_waits_3 g45 v_stack_3 v_kept_3 (by omega) (by omega)
              · have f32 : r87.toInt ≠ 0 := i_ne (a := r87.toInt) (b := 0) rfl rfl c90
                refine ok_X5_nextOf (by omega) (by omega) (fun r100 f33 => ?_)
                refine ok_X5_otherOf (by omega) (by omega) (fun r109 f34 => ?_)
                intro x114 ex114
                have f35 : x114.toInt = p1.toInt + 1 := i_add (a := p1.toInt) (b := 1) ex114 rfl rfl (by have h8_1 := i_rng p1; have h8_2 := i_rng r84; have h8_3 := i_rng v_subject_count; omega) (by omega)
                refine ok_X3_spread (by omega) (by omega) (fun r115_0 r115_1 r115_2 r115_3 r115_4 r115_5 r115_6 r115_7 r115_8 f36 f37 f38 => ?_)
                exact j_150 r115_0 r115_1 r115_2 r115_3 r115_4 r115_5 r115_6 r115_7 r115_8 (by omega) (by omega)
  exact ⟨(256 : Int).toNat + 1, j_3   ((256 : Int).toNat + 1) 0 v_nextCount v_stackCount v_nextAt v_nextCells v_seen v_waits v_cells v_stack v_kept (by omega) (by omega) (by omega) (by omega)⟩
