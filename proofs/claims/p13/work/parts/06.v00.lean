set_option maxHeartbeats 4000000 in
theorem ok_X7_empty  {Q : Int32 → Bool → Prop} (hq : ∀ (ov_count : Int32) (ov_over : Bool), ov_count.toInt = 0 → (bz ov_over).toInt = 0 → Q ov_count ov_over) : w_X7_empty  Q := by
  have q_t : (bz true).toInt = 1 := rfl
  have q_f : (bz false).toInt = 0 := rfl
  have q_0 : (0 : Int32).toInt = 0 := rfl
  unfold w_X7_empty
  exact hq 0 false (by omega) (by omega)
set_option maxHeartbeats 4000000 in
theorem ok_X7_at {p1 : Int32} {v_count : Int32} {v_items : Nat → Int32} {nv_items : Nat} {Q : Int32 → Prop} (a0 : 0 ≤ v_count.toInt) (a1 : v_count.toInt ≤ (nv_items : Int)) (a2 : (nv_items : Int) ≤ 1000) (hq : ∀ (r : Int32), ((0 ≤ p1.toInt ∧ p1.toInt + 1 ≤ v_count.toInt ∧ p1.toInt + 1 ≤ (nv_items : Int)) ∨ (r.toInt + 1 = 0)) → Q r) : w_X7_at p1 v_count v_items nv_items Q := by
  have q_t : (bz true).toInt = 1 := rfl
  have q_f : (bz false).toInt = 0 := rfl
  have q_m1 : ((-1) : Int32).toInt = (-1) := rfl
  unfold w_X7_at
  have j_31 : ∀ (s0_31 : Int32), ((0 ≤ p1.toInt ∧ p1.toInt + 1 ≤ v_count.toInt ∧ p1.toInt + 1 ≤ (nv_items : Int)) ∨ (s0_31.toInt + 1 = 0)) → w_X7_at_31 Q s0_31 := by
    intro s0_31 f1
    unfold w_X7_at_31
    exact hq s0_31 (by omega)
  have j_30 : ((p1.toInt + 1 ≤ 0) ∨ (0 ≤ p1.toInt ∧ v_count.toInt ≤ p1.toInt)) → w_X7_at_30 Q := by
    intro f2
    unfold w_X7_at_30
    exact j_31 (-1) (by omega)
  refine ⟨fun c1 => ?_, fun c1 => ?_⟩
  · have f3 : p1.toInt < 0 := i_lt (a := p1.toInt) (b := 0) rfl rfl c1
    exact j_30  (by omega)
  · have f4 : 0 ≤ p1.toInt := i_nlt (a := p1.toInt) (b := 0) rfl rfl c1
    refine ⟨fun c9 => ?_, fun c9 => ?_⟩
    · have f5 : v_count.toInt ≤ p1.toInt := i_le (a := v_count.toInt) (b := p1.toInt) rfl rfl c9
      exact j_30  (by omega)
    · have f6 : p1.toInt < v_count.toInt := i_nle (a := v_count.toInt) (b := p1.toInt) rfl rfl c9
      intro x17 ex17
      have f7 : x17.toInt = (nv_items : Int) := i_len ex17 (by omega)
      refine ⟨fun c18 => ?_, fun c18 => ?_⟩
      · have f8 : x17.toInt ≤ p1.toInt := i_le (a := x17.toInt) (b := p1.toInt) rfl rfl c18
        exfalso; omega
      · have f9 : p1.toInt < x17.toInt := i_nle (a := x17.toInt) (b := p1.toInt) rfl rfl c18
        refine ⟨i_in (by omega) (by omega), ?_⟩
        intro x26 ex26
        exact j_31 x26 (by omega)
set_option maxHeartbeats 4000000 in
theorem ok_X7_add {p1 : Int32} {v_count : Int32} {v_over : Bool} {v_items : Nat → Int32} {nv_items : Nat} {Q : Int32 → Bool → (Nat → Int32) → Prop} (a0 : 0 ≤ v_count.toInt) (a1 : v_count.toInt ≤ (nv_items : Int)) (a2 : (nv_items : Int) ≤ 1000) (hq : ∀ (ov_count : Int32) (ov_over : Bool) (ov_items : Nat → Int32), 0 ≤ ov_count.toInt → ov_count.toInt ≤ (nv_items : Int) → v_count.toInt ≤ ov_count.toInt → ((v_count.toInt + 1 ≤ (nv_items : Int) ∧ ov_count.toInt = v_count.toInt + 1) ∨ (ov_count.toInt = v_count.toInt ∧ (nv_items : Int) ≤ v_count.toInt)) → Q ov_count ov_over ov_items) : w_X7_add p1 v_count v_over v_items nv_items Q := by
  have q_t : (bz true).toInt = 1 := rfl
  have q_f : (bz false).toInt = 0 := rfl
  unfold w_X7_add
  have j_47 : ∀ (v_count_47 : Int32) (v_over_47 : Bool) (v_items_47 : Nat → Int32), 0 ≤ v_count_47.toInt → v_count_47.toInt ≤ (nv_items : Int) → v_count.toInt ≤ v_count_47.toInt → ((v_count.toInt + 1 ≤ (nv_items : Int) ∧ v_count_47.toInt = v_count.toInt + 1) ∨ (v_count_47.toInt = v_count.toInt ∧ (nv_items : Int) ≤ v_count.toInt)) → w_X7_add_47 Q v_count_47 v_over_47 v_items_47 := by
    intro v_count_47 v_over_47 v_items_47 f1 f2 f3 f4
    unfold w_X7_add_47
    exact hq v_count_47 v_over_47 v_items_47 (by omega) (by omega) (by omega) (by omega)
  have j_42 : (nv_items : Int) ≤ v_count.toInt → w_X7_add_42 Q v_count v_over v_items := by
    intro f5
    unfold w_X7_add_42
    exact j_47 v_count true v_items (by omega) (by omega) (by omega) (by omega)
  refine ⟨fun c4 => ?_, fun c4 => ?_⟩
  · have f6 : v_count.toInt < 0 := i_lt (a := v_count.toInt) (b := 0) rfl rfl c4
    exfalso; omega
  · have f7 : 0 ≤ v_count.toInt := i_nlt (a := v_count.toInt) (b := 0) rfl rfl c4
    intro x15 ex15
    have f8 : x15.toInt = (nv_items : Int) := i_len ex15 (by omega)
    refine ⟨fun c16 => ?_, fun c16 => ?_⟩
    · have f9 : x15.toInt ≤ v_count.toInt := i_le (a := x15.toInt) (b := v_count.toInt) rfl rfl c16
      exact j_42  (by omega)
    · have f10 : v_count.toInt < x15.toInt := i_nle (a := x15.toInt) (b := v_count.toInt) rfl rfl c16
      refine ⟨i_in (by omega) (by omega), ?_⟩
      intro g28 eg28
      intro x35 ex35
      have f11 : x35.toInt = v_count.toInt + 1 := i_add (a := v_count.toInt) (b := 1) ex35 rfl rfl (by omega) (by omega)
      exact j_47 x35 v_over g28 (by omega) (by omega) (by omega) (by omega)
set_option maxHeartbeats 4000000 in
theorem ok_X7_addFrom {p2 : Int32} {p3 : Int32} {a1_count : Int32} {a1_items : Nat → Int32} {na1_items : Nat} {v_count : Int32} {v_over : Bool} {v_items : Nat → Int32} {nv_items : Nat} {Q : Int32 → Bool → (Nat → Int32) → Prop} (a0 : 0 ≤ a1_count.toInt) (a1 : a1_count.toInt ≤ (na1_items : Int)) (a2 : (na1_items : Int) ≤ 1000) (a3 : 0 ≤ v_count.toInt) (a4 : v_count.toInt ≤ (nv_items : Int)) (a5 : (nv_items : Int) ≤ 1000) (hq : ∀ (ov_count : Int32) (ov_over : Bool) (ov_items : Nat → Int32), 0 ≤ ov_count.toInt + 1 → 0 ≤ ov_count.toInt → ov_count.toInt ≤ 1000 → v_count.toInt ≤ ov_count.toInt → ov_count.toInt ≤ (nv_items : Int) → Q ov_count ov_over ov_items) : w_X7_addFrom p2 p3 a1_count a1_items na1_items v_count v_over v_items nv_items Q := by
  have q_t : (bz true).toInt = 1 := rfl
  have q_f : (bz false).toInt = 0 := rfl
  unfold w_X7_addFrom
  intro x2 ex2
  have f1 : ((x2.toInt = p2.toInt ∧ 0 ≤ p2.toInt) ∨ (x2.toInt = 0 ∧ p2.toInt ≤ 0)) := by have h9 := i_max (a := p2.toInt) (b := 0) ex2 rfl rfl; omega
  have j_7 : ∀ n_7 : Nat, ∀ (l4_7 : Int32) (v_count_7 : Int32) (v_over_7 : Bool) (v_items_7 : Nat → Int32), x2.toInt ≤ l4_7.toInt → v_count.toInt ≤ v_count_7.toInt → v_count_7.toInt ≤ (nv_items : Int) → ((-1) * l4_7.toInt + 2147483647).toNat < n_7 → w_X7_addFrom_7 p3 a1_count a1_items na1_items nv_items Q n_7 l4_7 v_count_7 v_over_7 v_items_7 := by
    intro n_7
    induction n_7 with
    | zero =>
      intro l4_7 v_count_7 v_over_7 v_items_7 f2 f3 f4 hm_7
      exfalso; omega
    | succ n_7 ih_7 =>
      intro l4_7 v_count_7 v_over_7 v_items_7 f2 f3 f4 hm_7
      unfold w_X7_addFrom_7
      unfold w_X7_addFrom_7B
      have j_38 : ((p3.toInt ≤ l4_7.toInt) ∨ (l4_7.toInt + 1 ≤ p3.toInt ∧ a1_count.toInt ≤ l4_7.toInt)) → w_X7_addFrom_38 Q v_count_7 v_over_7 v_items_7 := by
        intro f5
        unfold w_X7_addFrom_38
        exact hq v_count_7 v_over_7 v_items_7 (by omega) (by omega) (by omega) (by omega) (by omega)
      refine ⟨fun c10 => ?_, fun c10 => ?_⟩
      · have f6 : p3.toInt ≤ l4_7.toInt := i_le (a := p3.toInt) (b := l4_7.toInt) rfl rfl c10
        exact j_38  (by omega)
      · have f7 : l4_7.toInt < p3.toInt := i_nle (a := p3.toInt) (b := l4_7.toInt) rfl rfl c10
        refine ⟨fun c19 => ?_, fun c19 => ?_⟩
        · have f8 : a1_count.toInt ≤ l4_7.toInt := i_le (a := a1_count.toInt) (b := l4_7.toInt) rfl rfl c19
          exact j_38  (by omega)
        · have f9 : l4_7.toInt < a1_count.toInt := i_nle (a := a1_count.toInt) (b := l4_7.toInt) rfl rfl c19
          refine ok_X7_at (by omega) (by omega) (by omega) (fun r26 f10 => ?_)
          refine ok_X7_add (by omega) (by omega) (by omega) (fun r29_0 r29_1 r29_2 f11 f12 f13 f14 => ?_)
          intro x32 ex32
          have f15 : x32.toInt = l4_7.toInt + 1 := i_add (a := l4_7.toInt) (b := 1) ex32 rfl rfl (by omega) (by omega)
          exact ih_7 x32 r29_0 r29_1 r29_2 (by omega) (by omega) (by omega) (by have h8_0 := i_rng l4_7; have h8_1 := i_rng x32; omega)
  exact ⟨((-1) * x2.toInt + 2147483647).toNat + 1, j_7   (((-1) * x2.toInt + 2147483647).toNat + 1) x2 v_count v_over v_items (by omega) (by omega) (by omega) (by omega)⟩
set_option maxHeartbeats 4000000 in
theorem ok_X7_take {a1_count : Int32} {a1_items : Nat → Int32} {na1_items : Nat} {v_items : Nat → Int32} {nv_items : Nat} {Q : Int32 → Bool → (Nat → Int32) → Prop} (a0 : 0 ≤ a1_count.toInt) (a1 : a1_count.toInt ≤ (na1_items : Int)) (a2 : (na1_items : Int) ≤ 1000) (a3 : (nv_items : Int) ≤ 1000) (hq : ∀ (ov_count : Int32) (ov_over : Bool) (ov_items : Nat → Int32), 0 ≤ ov_count.toInt + 1 → 0 ≤ ov_count.toInt → ov_count.toInt ≤ 1000 → ov_count.toInt ≤ (nv_items : Int) → Q ov_count ov_over ov_items) : w_X7_take a1_count a1_items na1_items v_items nv_items Q := by
  have q_t : (bz true).toInt = 1 := rfl
  have q_f : (bz false).toInt = 0 := rfl
  have q_0 : (0 : Int32).toInt = 0 := rfl
  unfold w_X7_take
  refine ok_X7_empty  (fun r1_0 r1_1 f1 f2 => ?_)
  refine ok_X7_addFrom (by omega) (by omega) (by omega) (by omega) (by omega) (by omega) (fun r11_0 r11_1 r11_2 f3 f4 f5 f6 f7 => ?_)
  exact hq r11_0 r11_1 r11_2 (by omega) (by omega) (by omega) (by omega)
set_option maxHeartbeats 4000000 in
theorem ok_X7_turnRound {v_count : Int32} {v_items : Nat → Int32} {nv_items : Nat} {Q : (Nat → Int32) → Prop} (a0 : 0 ≤ v_count.toInt) (a1 : v_count.toInt ≤ (nv_items : Int)) (a2 : (nv_items : Int) ≤ 1000) (hq : ∀ (ov_items : Nat → Int32), Q ov_items) : w_X7_turnRound v_count v_items nv_items Q := by
  have q_t : (bz true).toInt = 1 := rfl
  have q_f : (bz false).toInt = 0 := rfl
  have q_0 : (0 : Int32).toInt = 0 := rfl
  unfold w_X7_turnRound
  intro x7 ex7
  have f1 : x7.toInt = v_count.toInt - 1 := i_sub (a := v_count.toInt) (b := 1) ex7 rfl rfl (by omega) (by omega)
  have j_9 : ∀ n_9 : Nat, ∀ (l1_9 : Int32) (l2_9 : Int32) (v_items_9 : Nat → Int32), 0 ≤ l1_9.toInt → l1_9.toInt ≤ v_count.toInt → 0 ≤ l2_9.toInt + 1 → l2_9.toInt + 1 ≤ v_count.toInt → ((-1) * l1_9.toInt + 2147483647).toNat < n_9 → w_X7_turnRound_9 nv_items Q n_9 l1_9 l2_9 v_items_9 := by
    intro n_9
    induction n_9 with
    | zero =>
      intro l1_9 l2_9 v_items_9 f2 f3 f4 f5 hm_9
      exfalso; omega
    | succ n_9 ih_9 =>
      intro l1_9 l2_9 v_items_9 f2 f3 f4 f5 hm_9
      unfold w_X7_turnRound_9
      unfold w_X7_turnRound_9B
      have j_58 : l2_9.toInt ≤ l1_9.toInt → w_X7_turnRound_58 Q v_items_9 := by
        intro f6
        unfold w_X7_turnRound_58
        exact hq v_items_9 
      refine ⟨fun c11 => ?_, fun c11 => ?_⟩
      · have f7 : l2_9.toInt ≤ l1_9.toInt := i_le (a := l2_9.toInt) (b := l1_9.toInt) rfl rfl c11
        exact j_58  (by omega)
      · have f8 : l1_9.toInt < l2_9.toInt := i_nle (a := l2_9.toInt) (b := l1_9.toInt) rfl rfl c11
        intro x19 ex19
        have f9 : x19.toInt = (nv_items : Int) := i_len ex19 (by omega)
        refine ⟨fun c20 => ?_, fun c20 => ?_⟩
        · have f10 : x19.toInt ≤ l2_9.toInt := i_le (a := x19.toInt) (b := l2_9.toInt) rfl rfl c20
          exfalso; omega
        · have f11 : l2_9.toInt < x19.toInt := i_nle (a := x19.toInt) (b := l2_9.toInt) rfl rfl c20
          refine ⟨i_in (by omega) (by omega), ?_⟩
          intro x28 ex28
          refine ⟨i_in (by omega) (by omega), ?_⟩
          intro x40 ex40
          refine ⟨i_in (by omega) (by omega), ?_⟩
          intro g41 eg41
          refine ⟨i_in (by omega) (by omega), ?_⟩
          intro g48 eg48
          intro x49 ex49
          have f12 : x49.toInt = l1_9.toInt + 1 := i_add (a := l1_9.toInt) (b := 1) ex49 rfl rfl (by omega) (by omega)
          intro x52 ex52
          have f13 : x52.toInt = l2_9.toInt + (-1) := i_add (a := l2_9.toInt) (b := (-1)) ex52 rfl rfl (by omega) (by omega)
          exact ih_9 x49 x52 g48 (by omega) (by omega) (by omega) (by omega) (by have h8_0 := i_rng l1_9; have h8_1 := i_rng x49; omega)
  exact ⟨(2147483647 : Int).toNat + 1, j_9   ((2147483647 : Int).toNat + 1) 0 x7 v_items (by omega) (by omega) (by omega) (by omega) (by omega)⟩
