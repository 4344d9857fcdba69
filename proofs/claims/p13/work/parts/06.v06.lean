set_option maxHeartbeats 4000000 in
theorem ok_X3_spread {p1 : Int32} {p2 : Int32} {p3 : Int32} {v_nextCount : Int32} {v_stamp : Int32} {v_program_count : Int32} {v_program_kinds : Nat → Int32} {v_program_subjects : Nat → Int32} {v_program_nexts : Nat → Int32} {v_program_others : Nat → Int32} {v_edges : Nat → Bool} {v_nextAt : Nat → Int32} {v_nextCells : Nat → Int32} {v_seen : Nat → Int32} {v_waits : Nat → Int32} {v_cells : Nat → Int32} {v_stack : Nat → Int32} {v_kept : Nat → Int32} {Q : Int32 → Int32 → (Nat → Int32) → (Nat → Int32) → (Nat → Int32) → (Nat → Int32) → (Nat → Int32) → (Nat → Int32) → (Nat → Int32) → Prop} (a0 : 0 ≤ v_program_count.toInt) (a1 : v_program_count.toInt ≤ 512) (hq : ∀ (ov_nextCount : Int32) (ov_stackCount : Int32) (ov_nextAt : Nat → Int32) (ov_nextCells : Nat → Int32) (ov_seen : Nat → Int32) (ov_waits : Nat → Int32) (ov_cells : Nat → Int32) (ov_stack : Nat → Int32) (ov_kept : Nat → Int32), v_nextCount.toInt ≤ ov_nextCount.toInt → 0 ≤ ov_stackCount.toInt + 1 → 0 ≤ ov_stackCount.toInt → Q ov_nextCount ov_stackCount ov_nextAt ov_nextCells ov_seen ov_waits ov_cells ov_stack ov_kept) : w_X3_spread p1 p2 p3 v_nextCount v_stamp v_program_count v_program_kinds v_program_subjects v_program_nexts v_program_others v_edges v_nextAt v_nextCells v_seen v_waits v_cells v_stack v_kept Q := by
  have q_t : (bz true).toInt = 1 := rfl
  have q_f : (bz false).toInt = 0 := rfl
  have q_0 : (0 : Int32).toInt = 0 := rfl
  unfold w_X3_spread
  refine ok_X3_push  (fun r8_0 r8_1 r8_2 f1 => ?_)
  have j_14 : ∀ n_14 : Nat, ∀ (l4_14 : Int32) (v_nextCount_14 : Int32) (v_stackCount_14 : Int32) (v_nextAt_14 : Nat → Int32) (v_nextCells_14 : Nat → Int32) (v_seen_14 : Nat → Int32) (v_waits_14 : Nat → Int32) (v_cells_14 : Nat → Int32) (v_stack_14 : Nat → Int32) (v_kept_14 : Nat → Int32), 0 ≤ l4_14.toInt → l4_14.toInt ≤ 11266 → v_nextCount.toInt ≤ v_nextCount_14.toInt → 0 ≤ v_stackCount_14.toInt → ((-1) * l4_14.toInt + 11266).toNat < n_14 → w_X3_spread_14 p3 v_stamp v_program_count v_program_kinds v_program_subjects v_program_nexts v_program_others v_edges Q n_14 l4_14 v_nextCount_14 v_stackCount_14 v_nextAt_14 v_nextCells_14 v_seen_14 v_waits_14 v_cells_14 v_stack_14 v_kept_14 := by
    intro n_14
    induction n_14 with
    | zero =>
      intro l4_14 v_nextCount_14 v_stackCount_14 v_nextAt_14 v_nextCells_14 v_seen_14 v_waits_14 v_cells_14 v_stack_14 v_kept_14 f2 f3 f4 f5 hm_14
      exfalso; omega
    | succ n_14 ih_14 =>
      intro l4_14 v_nextCount_14 v_stackCount_14 v_nextAt_14 v_nextCells_14 v_seen_14 v_waits_14 v_cells_14 v_stack_14 v_kept_14 f2 f3 f4 f5 hm_14
      unfold w_X3_spread_14
      unfold w_X3_spread_14B
      have j_119 : ((11266 ≤ l4_14.toInt) ∨ (l4_14.toInt ≤ 11265 ∧ v_stackCount_14.toInt ≤ 0) ∨ (l4_14.toInt ≤ 11265 ∧ 1 ≤ v_stackCount_14.toInt ∧ 11267 ≤ v_stackCount_14.toInt)) → w_X3_spread_119 Q v_nextCount_14 v_stackCount_14 v_nextAt_14 v_nextCells_14 v_seen_14 v_waits_14 v_cells_14 v_stack_14 v_kept_14 := by
        intro f6
        unfold w_X3_spread_119
        exact hq v_nextCount_14 v_stackCount_14 v_nextAt_14 v_nextCells_14 v_seen_14 v_waits_14 v_cells_14 v_stack_14 v_kept_14 (by omega) (by omega) (by omega)
      refine ⟨fun c19 => ?_, fun c19 => ?_⟩
      · have f7 : 11266 ≤ l4_14.toInt := i_le (a := 11266) (b := l4_14.toInt) rfl rfl c19
        exact j_119  (by omega)
      · have f8 : l4_14.toInt < 11266 := i_nle (a := 11266) (b := l4_14.toInt) rfl rfl c19
        refine ⟨fun c26 => ?_, fun c26 => ?_⟩
        · have f9 : v_stackCount_14.toInt ≤ 0 := i_le (a := v_stackCount_14.toInt) (b := 0) rfl rfl c26
          exact j_119  (by omega)
        · have f10 : 0 < v_stackCount_14.toInt := i_nle (a := v_stackCount_14.toInt) (b := 0) rfl rfl c26
          refine ⟨fun c36 => ?_, fun c36 => ?_⟩
          · have f11 : 11266 < v_stackCount_14.toInt := i_lt (a := 11266) (b := v_stackCount_14.toInt) rfl rfl c36
            exact j_119  (by omega)
          · have f12 : v_stackCount_14.toInt ≤ 11266 := i_nlt (a := 11266) (b := v_stackCount_14.toInt) rfl rfl c36
            intro x45 ex45
            have f13 : x45.toInt = v_stackCount_14.toInt - 1 := i_sub (a := v_stackCount_14.toInt) (b := 1) ex45 rfl rfl (by omega) (by omega)
            refine ⟨i_in (by omega) (by omega), ?_⟩
            intro x57 ex57
            refine ⟨i_in (by omega) (by omega), ?_⟩
            intro x68 ex68
            have j_113 : ∀ (v_nextCount_113 : Int32) (v_stackCount_113 : Int32) (v_nextAt_113 : Nat → Int32) (v_nextCells_113 : Nat → Int32) (v_seen_113 : Nat → Int32) (v_waits_113 : Nat → Int32) (v_cells_113 : Nat → Int32) (v_stack_113 : Nat → Int32) (v_kept_113 : Nat → Int32), v_nextCount.toInt ≤ v_nextCount_113.toInt → v_nextCount_14.toInt ≤ v_nextCount_113.toInt → v_stackCount_14.toInt ≤ v_stackCount_113.toInt + 1 → ((v_nextCount_113.toInt = v_nextCount_14.toInt ∧ v_stackCount_113.toInt = x45.toInt) ∨ (v_nextCount_14.toInt ≤ v_nextCount_113.toInt ∧ x45.toInt ≤ v_stackCount_113.toInt)) → w_X3_spread_113 Q (w_X3_spread_14 p3 v_stamp v_program_count v_program_kinds v_program_subjects v_program_nexts v_program_others v_edges Q n_14) l4_14 v_nextCount_113 v_stackCount_113 v_nextAt_113 v_nextCells_113 v_seen_113 v_waits_113 v_cells_113 v_stack_113 v_kept_113 := by
              intro v_nextCount_113 v_stackCount_113 v_nextAt_113 v_nextCells_113 v_seen_113 v_waits_113 v_cells_113 v_stack_113 v_kept_113 f14 f15 f16 f17
              unfold w_X3_spread_113
              intro x113 ex113
              have f18 : x113.toInt = l4_14.toInt + 1 := i_add (a := l4_14.toInt) (b := 1) ex113 rfl rfl (by omega) (by omega)
              exact ih_14 x113 v_nextCount_113 v_stackCount_113 v_nextAt_113 v_nextCells_113 v_seen_113 v_waits_113 v_cells_113 v_stack_113 v_kept_113 (by omega) (by omega) (by omega) (by omega) (by have h8_0 := i_rng l4_14; have h8_1 := i_rng x113; omega)
            refine ⟨fun c73 => ?_, fun c73 => ?_⟩
            · have f19 : 0 ≤ x57.toInt := i_le (a := 0) (b := x57.toInt) rfl rfl c73
              intro x94 ex94
              intro x97 ex97
              refine ok_X3_isNew  (fun r98 r98_0 f20 => ?_)
              refine ⟨fun c101 => ?_, fun c101 => ?_⟩
              · have f21 : r98.toInt = 0 := i_eq (a := r98.toInt) (b := 0) rfl rfl c101
                exact j_113 v_nextCount_14 x45 v_nextAt_14 v_nextCells_14 r98_0 v_waits_14 v_cells_14 v_stack_14 v_kept_14 (by omega) (by omega) (by omega) (by omega)
              · have f22 : r98.toInt ≠ 0 := i_ne (a := r98.toInt) (b := 0) rfl rfl c101
                refine ok_X3_spreadOne (by omega) (by omega) (fun r110_0 r110_1 r110_2 r110_3 r110_4 r110_5 r110_6 r110_7 f23 f24 => ?_)
                exact j_113 r110_0 r110_1 r110_2 r110_3 r98_0 r110_4 r110_5 r110_6 r110_7 (by omega) (by omega) (by omega) (by omega)
            · have f25 : x57.toInt < 0 := i_nle (a := 0) (b := x57.toInt) rfl rfl c73
              intro x80 ex80
              have f26 : x80.toInt = (-1) - x57.toInt := i_sub (a := (-1)) (b := x57.toInt) ex80 rfl rfl (by omega) (by have h8_0 := i_rng x57; omega)
              refine ok_X3_setCell  (fun r83_0 => ?_)
              exact j_113 v_nextCount_14 x45 v_nextAt_14 v_nextCells_14 v_seen_14 v_waits_14 r83_0 v_stack_14 v_kept_14 (by omega) (by omega) (by omega) (by omega)
  exact ⟨(11266 : Int).toNat + 1, j_14   ((11266 : Int).toNat + 1) 0 v_nextCount r8_0 v_nextAt v_nextCells v_seen v_waits v_cells r8_1 r8_2 (by omega) (by omega) (by omega) (by omega) (by omega)⟩
set_option maxHeartbeats 4000000 in
theorem ok_X3_goAlong {p1 : Int32} {p2 : Int32} {a3_count : Int32} {a3_over : Bool} {a3_items : Nat → Int32} {na3_items : Nat} {v_width : Int32} {v_nowCount : Int32} {v_nextCount : Int32} {v_stamp : Int32} {v_stackCount : Int32} {v_program_count : Int32} {v_program_kinds : Nat → Int32} {v_program_subjects : Nat → Int32} {v_program_nexts : Nat → Int32} {v_program_others : Nat → Int32} {v_edges : Nat → Bool} {v_nowAt : Nat → Int32} {v_nowCells : Nat → Int32} {v_nextAt : Nat → Int32} {v_nextCells : Nat → Int32} {v_seen : Nat → Int32} {v_waits : Nat → Int32} {v_cells : Nat → Int32} {v_stack : Nat → Int32} {v_kept : Nat → Int32} {v_program_tree_count : Int32} {v_program_tree_ranges : Int32} {v_program_tree_sort : Nat → Int32} {v_program_tree_value : Nat → Int32} {v_program_tree_low : Nat → Int32} {v_program_tree_high : Nat → Int32} {v_program_tree_withinCase : Nat → Bool} {v_program_tree_rangeBegin : Nat → Int32} {v_program_tree_rangeEnd : Nat → Int32} {v_subject_count : Int32} {v_subject_items : Nat → Int32} {nv_subject_items : Nat} {Q : Int32 → Int32 → Bool → (Nat → Int32) → Int32 → Int32 → (Nat → Int32) → (Nat → Int32) → (Nat → Int32) → (Nat → Int32) → (Nat → Int32) → (Nat → Int32) → (Nat → Int32) → Prop} (a0 : 0 ≤ a3_count.toInt) (a1 : a3_count.toInt ≤ (na3_items : Int)) (a2 : (na3_items : Int) ≤ 1000) (a3 : 0 ≤ v_program_count.toInt) (a4 : v_program_count.toInt ≤ 512) (a5 : 0 ≤ v_program_tree_count.toInt) (a6 : v_program_tree_count.toInt ≤ 256) (a7 : 0 ≤ v_program_tree_ranges.toInt) (a8 : v_program_tree_ranges.toInt ≤ 512) (a9 : 0 ≤ v_subject_count.toInt) (a10 : v_subject_count.toInt ≤ (nv_subject_items : Int)) (a11 : (nv_subject_items : Int) ≤ 1000) (a12 : 0 ≤ p2.toInt) (a13 : p2.toInt ≤ 1) (hq : ∀ (r : Int32) (oa3_count : Int32) (oa3_over : Bool) (oa3_items : Nat → Int32) (ov_nextCount : Int32) (ov_stackCount : Int32) (ov_nextAt : Nat → Int32) (ov_nextCells : Nat → Int32) (ov_seen : Nat → Int32) (ov_waits : Nat → Int32) (ov_cells : Nat → Int32) (ov_stack : Nat → Int32) (ov_kept : Nat → Int32), v_nextCount.toInt ≤ ov_nextCount.toInt → ((r.toInt = 1 ∧ 0 ≤ oa3_count.toInt + 1 ∧ 0 ≤ oa3_count.toInt ∧ oa3_count.toInt ≤ 20 ∧ oa3_count.toInt ≤ 21 ∧ oa3_count.toInt ≤ (na3_items : Int)) ∨ (r.toInt = 0 ∧ oa3_count.toInt = a3_count.toInt ∧ (bz oa3_over).toInt = (bz a3_over).toInt)) → Q r oa3_count oa3_over oa3_items ov_nextCount ov_stackCount ov_nextAt ov_nextCells ov_seen ov_waits ov_cells ov_stack ov_kept) : w_X3_goAlong p1 p2 a3_count a3_over a3_items na3_items v_width v_nowCount v_nextCount v_stamp v_stackCount v_program_count v_program_kinds v_program_subjects v_program_nexts v_program_others v_edges v_nowAt v_nowCells v_nextAt v_nextCells v_seen v_waits v_cells v_stack v_kept v_program_tree_count v_program_tree_ranges v_program_tree_sort v_program_tree_value v_program_tree_low v_program_tree_high v_program_tree_withinCase v_program_tree_rangeBegin v_program_tree_rangeEnd v_subject_count v_subject_items nv_subject_items Q := by
  have q_t : (bz true).toInt = 1 := rfl
  have q_f : (bz false).toInt = 0 := rfl
  have q_0 : (0 : Int32).toInt = 0 := rfl
  have q_1 : (1 : Int32).toInt = 1 := rfl
  unfold w_X3_goAlong
  have j_3 : ∀ n_3 : Nat, ∀ (l4_3 : Int32) (v_nextCount_3 : Int32) (v_stackCount_3 : Int32) (v_nextAt_3 : Nat → Int32) (v_nextCells_3 : Nat → Int32) (v_seen_3 : Nat → Int32) (v_waits_3 : Nat → Int32) (v_cells_3 : Nat → Int32) (v_stack_3 : Nat → Int32) (v_kept_3 : Nat → Int32), 0 ≤ l4_3.toInt → l4_3.toInt ≤ 256 → v_nextCount.toInt ≤ v_nextCount_3.toInt → ((-1) * l4_3.toInt + 256).toNat < n_3 → w_X3_goAlong_3 p1 p2 na3_items v_width v_nowCount v_stamp v_program_count v_program_kinds v_program_subjects v_program_nexts v_program_others v_edges v_nowAt v_nowCells v_program_tree_count v_program_tree_ranges v_program_tree_sort v_program_tree_value v_program_tree_low v_program_tree_high v_program_tree_withinCase v_program_tree_rangeBegin v_program_tree_rangeEnd v_subject_count v_subject_items nv_subject_items Q a3_count a3_over a3_items n_3 l4_3 v_nextCount_3 v_stackCount_3 v_nextAt_3 v_nextCells_3 v_seen_3 v_waits_3 v_cells_3 v_stack_3 v_kept_3 := by
    intro n_3
    induction n_3 with
    | zero =>
      intro l4_3 v_nextCount_3 v_stackCount_3 v_nextAt_3 v_nextCells_3 v_seen_3 v_waits_3 v_cells_3 v_stack_3 v_kept_3 f1 f2 f3 hm_3
      exfalso; omega
    | succ n_3 ih_3 =>
      intro l4_3 v_nextCount_3 v_stackCount_3 v_nextAt_3 v_nextCells_3 v_seen_3 v_waits_3 v_cells_3 v_stack_3 v_kept_3 f1 f2 f3 hm_3
      unfold w_X3_goAlong_3
      unfold w_X3_goAlong_3B
      have j_156 : ((v_nowCount.toInt ≤ l4_3.toInt) ∨ (l4_3.toInt + 1 ≤ v_nowCount.toInt ∧ 256 ≤ l4_3.toInt)) → w_X3_goAlong_156 Q a3_count a3_over a3_items v_nextCount_3 v_stackCount_3 v_nextAt_3 v_nextCells_3 v_seen_3 v_waits_3 v_cells_3 v_stack_3 v_kept_3 := by
        intro f4
        unfold w_X3_goAlong_156
        exact hq 0 a3_count a3_over a3_items v_nextCount_3 v_stackCount_3 v_nextAt_3 v_nextCells_3 v_seen_3 v_waits_3 v_cells_3 v_stack_3 v_kept_3 (by omega) (by omega)
      refine ⟨fun c9 => ?_, fun c9 => ?_⟩
      · have f5 : v_nowCount.toInt ≤ l4_3.toInt := i_le (a := v_nowCount.toInt) (b := l4_3.toInt) rfl rfl c9
        exact j_156  (by omega)
      · have f6 : l4_3.toInt < v_nowCount.toInt := i_nle (a := v_nowCount.toInt) (b := l4_3.toInt) rfl rfl c9
        refine ⟨fun c17 => ?_, fun c17 => ?_⟩
        · have f7 : 256 ≤ l4_3.toInt := i_le (a := 256) (b := l4_3.toInt) rfl rfl c17
          exact j_156  (by omega)
        · have f8 : l4_3.toInt < 256 := i_nle (a := 256) (b := l4_3.toInt) rfl rfl c17
          refine ⟨i_in (by omega) (by omega), ?_⟩
          intro x26 ex26
          intro x37 ex37
          have f9 : x37.toInt = l4_3.toInt * 20 := i_mul (a := l4_3.toInt) (b := 20) ex37 rfl rfl (by omega) (by omega)
          refine ⟨(i_nn (a := x37.toInt) rfl (by omega)), (i_nn (a := 0) rfl (by omega)), (i_nn (a := 20) rfl (by omega)), i_cp (a := x37.toInt) (b := 20) rfl rfl (by omega) (by omega) (by omega), i_cp (a := 0) (b := 20) rfl rfl (by omega) (by omega) (by omega), ?_⟩
          intro g45 eg45
          refine ok_X5_kindOf (by omega) (by omega) (fun r54 f10 => ?_)
          have j_150 : ∀ (v_nextCount_150 : Int32) (v_stackCount_150 : Int32) (v_nextAt_150 : Nat → Int32) (v_nextCells_150 : Nat → Int32) (v_seen_150 : Nat → Int32) (v_waits_150 : Nat → Int32) (v_cells_150 : Nat → Int32) (v_stack_150 : Nat → Int32) (v_kept_150 : Nat → Int32), v_nextCount.toInt ≤ v_nextCount_150.toInt → v_nextCount_3.toInt ≤ v_nextCount_150.toInt → w_X3_goAlong_150 Q (w_X3_goAlong_3 p1 p2 na3_items v_width v_nowCount v_stamp v_program_count v_program_kinds v_program_subjects v_program_nexts v_program_others v_edges v_nowAt v_nowCells v_program_tree_count v_program_tree_ranges v_program_tree_sort v_program_tree_value v_program_tree_low v_program_tree_high v_program_tree_withinCase v_program_tree_rangeBegin v_program_tree_rangeEnd v_subject_count v_subject_items nv_subject_items Q a3_count a3_over a3_items n_3) l4_3 v_nextCount_150 v_stackCount_150 v_nextAt_150 v_nextCells_150 v_seen_150 v_waits_150 v_cells_150 v_stack_150 v_kept_150 := by
            intro v_nextCount_150 v_stackCount_150 v_nextAt_150 v_nextCells_150 v_seen_150 v_waits_150 v_cells_150 v_stack_150 v_kept_150 f11 f12
            unfold w_X3_goAlong_150
            intro x150 ex150
            have f13 : x150.toInt = l4_3.toInt + 1 := i_add (a := l4_3.toInt) (b := 1) ex150 rfl rfl (by omega) (by omega)
            exact ih_3 x150 v_nextCount_150 v_stackCount_150 v_nextAt_150 v_nextCells_150 v_seen_150 v_waits_150 v_cells_150 v_stack_150 v_kept_150 (by omega) (by omega) (by omega) (by have h8_0 := i_rng l4_3; have h8_1 := i_rng x150; omega)
          refine ⟨fun c59 => ?_, fun c59 => ?_⟩
          · have f14 : r54.toInt = 6 := i_eq (a := r54.toInt) (b := 6) rfl rfl c59
            have j_136 : ((p2.toInt = 0) ∨ (p1.toInt = v_subject_count.toInt)) → w_X3_goAlong_136 p1 na3_items v_width Q a3_count a3_over a3_items v_nextCount_3 v_stackCount_3 v_nextAt_3 v_nextCells_3 v_seen_3 v_waits_3 g45 v_stack_3 v_kept_3 := by
              intro f15
              unfold w_X3_goAlong_136
              intro g142 eg142
              refine ok_X3_tell (by omega) (fun r145_0 r145_1 r145_2 f16 f17 f18 f19 f20 => ?_)
              exact hq 1 r145_0 r145_1 r145_2 v_nextCount_3 v_stackCount_3 v_nextAt_3 v_nextCells_3 v_seen_3 v_waits_3 g142 v_stack_3 v_kept_3 (by omega) (by omega)
            refine ⟨fun c122 => ?_, fun c122 => ?_⟩
            · have f21 : p2.toInt = 0 := i_eq (a := p2.toInt) (b := 0) rfl rfl c122
              exact j_136  (by omega)
            · have f22 : p2.toInt ≠ 0 := i_ne (a := p2.toInt) (b := 0) rfl rfl c122
              refine ⟨fun c133 => ?_, fun c133 => ?_⟩
              · have f23 : p1.toInt ≠ v_subject_count.toInt := i_ne (a := p1.toInt) (b := v_subject_count.toInt) rfl rfl c133
                exact j_150 v_nextCount_3 v_stackCount_3 v_nextAt_3 v_nextCells_3 v_seen_3 v_waits_3 g45 v_stack_3 v_kept_3 (by omega) (by omega)
              · have f24 : p1.toInt = v_subject_count.toInt := i_eq (a := p1.toInt) (b := v_subject_count.toInt) rfl rfl c133
                exact j_136  (by omega)
          · have f25 : r54.toInt ≠ 6 := i_ne (a := r54.toInt) (b := 6) rfl rfl c59
            refine ⟨fun c70 => ?_, fun c70 => ?_⟩
            · have f26 : v_subject_count.toInt ≤ p1.toInt := i_le (a := v_subject_count.toInt) (b := p1.toInt) rfl rfl c70
              exact j_150 v_nextCount_3 v_stackCount_3 v_nextAt_3 v_nextCells_3 v_seen_3 v_waits_3 g45 v_stack_3 v_kept_3 (by omega) (by omega)
            · have f27 : p1.toInt < v_subject_count.toInt := i_nle (a := v_subject_count.toInt) (b := p1.toInt) rfl rfl c70
              refine ok_X7_at (by omega) (by omega) (by omega) (fun r84 f28 => ?_)
              refine ok_X5_takes (by omega) (by omega) (by omega) (by omega) (by omega) (by omega) (fun r87 f29 f30 => ?_)
              refine ⟨fun c90 => ?_, fun c90 => ?_⟩
              · have f31 : r87.toInt = 0 := i_eq (a := r87.toInt) (b := 0) rfl rfl c90
                exact j_150 v_nextCount_3 v_stackCount_3 v_nextAt_3 v_nextCells_3 v_seen_3 v_waits_3 g45 v_stack_3 v_kept_3 (by omega) (by omega)
              · have f32 : r87.toInt ≠ 0 := i_ne (a := r87.toInt) (b := 0) rfl rfl c90
                refine ok_X5_nextOf (by omega) (by omega) (fun r100 f33 => ?_)
                refine ok_X5_otherOf (by omega) (by omega) (fun r109 f34 => ?_)
                intro x114 ex114
                have f35 : x114.toInt = p1.toInt + 1 := i_add (a := p1.toInt) (b := 1) ex114 rfl rfl (by have h8_1 := i_rng p1; have h8_2 := i_rng r84; have h8_3 := i_rng v_subject_count; omega) (by omega)
                refine ok_X3_spread (by omega) (by omega) (fun r115_0 r115_1 r115_2 r115_3 r115_4 r115_5 r115_6 r115_7 r115_8 f36 f37 f38 => ?_)
                exact j_150 r115_0 r115_1 r115_2 r115_3 r115_4 r115_5 r115_6 r115_7 r115_8 (by omega) (by omega)
  exact ⟨(256 : Int).toNat + 1, j_3   ((256 : Int).toNat + 1) 0 v_nextCount v_stackCount v_nextAt v_nextCells v_seen v_waits v_cells v_stack v_kept (by omega) (by omega) (by omega) (by omega)⟩
set_option maxHeartbeats 4000000 in
theorem ok_X3_goAlong_v1 {p1 : Int32} {p2 : Int32} {a3_count : Int32} {a3_over : Bool} {a3_items : Nat → Int32} {na3_items : Nat} {v_width : Int32} {v_nowCount : Int32} {v_nextCount : Int32} {v_stamp : Int32} {v_stackCount : Int32} {v_program_count : Int32} {v_program_kinds : Nat → Int32} {v_program_subjects : Nat → Int32} {v_program_nexts : Nat → Int32} {v_program_others : Nat → Int32} {v_edges : Nat → Bool} {v_nowAt : Nat → Int32} {v_nowCells : Nat → Int32} {v_seen : Nat → Int32} {v_waits : Nat → Int32} {v_cells : Nat → Int32} {v_stack : Nat → Int32} {v_kept : Nat → Int32} {v_program_tree_count : Int32} {v_program_tree_ranges : Int32} {v_program_tree_sort : Nat → Int32} {v_program_tree_value : Nat → Int32} {v_program_tree_low : Nat → Int32} {v_program_tree_high : Nat → Int32} {v_program_tree_withinCase : Nat → Bool} {v_program_tree_rangeBegin : Nat → Int32} {v_program_tree_rangeEnd : Nat → Int32} {Q : Int32 → Int32 → Bool → (Nat → Int32) → Int32 → Int32 → (Nat → Int32) → (Nat → Int32) → (Nat → Int32) → (Nat → Int32) → (Nat → Int32) → (Nat → Int32) → (Nat → Int32) → Prop} (a0 : 0 ≤ a3_count.toInt) (a1 : a3_count.toInt ≤ (na3_items : Int)) (a2 : (na3_items : Int) ≤ 1000) (a3 : 0 ≤ v_program_count.toInt) (a4 : v_program_count.toInt ≤ 512) (a5 : 0 ≤ v_program_tree_count.toInt) (a6 : v_program_tree_count.toInt ≤ 256) (a7 : 0 ≤ v_program_tree_ranges.toInt) (a8 : v_program_tree_ranges.toInt ≤ 512) (a9 : 0 ≤ p2.toInt) (a10 : p2.toInt ≤ 1) (hq : ∀ (r : Int32) (oa3_count : Int32) (oa3_over : Bool) (oa3_items : Nat → Int32) (ov_nextCount : Int32) (ov_stackCount : Int32) (ov_nowAt : Nat → Int32) (ov_nowCells : Nat → Int32) (ov_seen : Nat → Int32) (ov_waits : Nat → Int32) (ov_cells : Nat → Int32) (ov_stack : Nat → Int32) (ov_kept : Nat → Int32), v_nextCount.toInt ≤ ov_nextCount.toInt → ((r.toInt = 1 ∧ 0 ≤ oa3_count.toInt + 1 ∧ 0 ≤ oa3_count.toInt ∧ oa3_count.toInt ≤ 20 ∧ oa3_count.toInt ≤ 21 ∧ oa3_count.toInt ≤ (na3_items : Int)) ∨ (r.toInt = 0 ∧ oa3_count.toInt = a3_count.toInt ∧ (bz oa3_over).toInt = (bz a3_over).toInt)) → Q r oa3_count oa3_over oa3_items ov_nextCount ov_stackCount ov_nowAt ov_nowCells ov_seen ov_waits ov_cells ov_stack ov_kept) : w_X3_goAlong_v1 p1 p2 a3_count a3_over a3_items na3_items v_width v_nowCount v_nextCount v_stamp v_stackCount v_program_count v_program_kinds v_program_subjects v_program_nexts v_program_others v_edges v_nowAt v_nowCells v_seen v_waits v_cells v_stack v_kept v_program_tree_count v_program_tree_ranges v_program_tree_sort v_program_tree_value v_program_tree_low v_program_tree_high v_program_tree_withinCase v_program_tree_rangeBegin v_program_tree_rangeEnd Q := by
  have q_t : (bz true).toInt = 1 := rfl
  have q_f : (bz false).toInt = 0 := rfl
  have q_0 : (0 : Int32).toInt = 0 := rfl
  have q_1 : (1 : Int32).toInt = 1 := rfl
  unfold w_X3_goAlong_v1
  have j_3 : ∀ n_3 : Nat, ∀ (l4_3 : Int32) (v_nextCount_3 : Int32) (v_stackCount_3 : Int32) (v_nowAt_3 : Nat → Int32) (v_nowCells_3 : Nat → Int32) (v_seen_3 : Nat → Int32) (v_waits_3 : Nat → Int32) (v_cells_3 : Nat → Int32) (v_stack_3 : Nat → Int32) (v_kept_3 : Nat → Int32), 0 ≤ l4_3.toInt → l4_3.toInt ≤ 256 → v_nextCount.toInt ≤ v_nextCount_3.toInt → ((-1) * l4_3.toInt + 256).toNat < n_3 → w_X3_goAlong_v1_3 p1 p2 na3_items v_width v_nowCount v_stamp v_program_count v_program_kinds v_program_subjects v_program_nexts v_program_others v_edges v_program_tree_count v_program_tree_ranges v_program_tree_sort v_program_tree_value v_program_tree_low v_program_tree_high v_program_tree_withinCase v_program_tree_rangeBegin v_program_tree_rangeEnd Q a3_count a3_over a3_items n_3 l4_3 v_nextCount_3 v_stackCount_3 v_nowAt_3 v_nowCells_3 v_seen_3 v_waits_3 v_cells_3 v_stack_3 v_kept_3 := by
    intro n_3
    induction n_3 with
    | zero =>
      intro l4_3 v_nextCount_3 v_stackCount_3 v_nowAt_3 v_nowCells_3 v_seen_3 v_waits_3 v_cells_3 v_stack_3 v_kept_3 f1 f2 f3 hm_3
      exfalso; omega
    | succ n_3 ih_3 =>
      intro l4_3 v_nextCount_3 v_stackCount_3 v_nowAt_3 v_nowCells_3 v_seen_3 v_waits_3 v_cells_3 v_stack_3 v_kept_3 f1 f2 f3 hm_3
      unfold w_X3_goAlong_v1_3
      unfold w_X3_goAlong_v1_3B
      have j_156 : ((v_nowCount.toInt ≤ l4_3.toInt) ∨ (l4_3.toInt + 1 ≤ v_nowCount.toInt ∧ 256 ≤ l4_3.toInt)) → w_X3_goAlong_v1_156 Q a3_count a3_over a3_items v_nextCount_3 v_stackCount_3 v_nowAt_3 v_nowCells_3 v_seen_3 v_waits_3 v_cells_3 v_stack_3 v_kept_3 := by
        intro f4
        unfold w_X3_goAlong_v1_156
        exact hq 0 a3_count a3_over a3_items v_nextCount_3 v_stackCount_3 v_nowAt_3 v_nowCells_3 v_seen_3 v_waits_3 v_cells_3 v_stack_3 v_kept_3 (by omega) (by omega)
      refine ⟨fun c9 => ?_, fun c9 => ?_⟩
      · have f5 : v_nowCount.toInt ≤ l4_3.toInt := i_le (a := v_nowCount.toInt) (b := l4_3.toInt) rfl rfl c9
        exact j_156  (by omega)
      · have f6 : l4_3.toInt < v_nowCount.toInt := i_nle (a := v_nowCount.toInt) (b := l4_3.toInt) rfl rfl c9
        refine ⟨fun c17 => ?_, fun c17 => ?_⟩
        · have f7 : 256 ≤ l4_3.toInt := i_le (a := 256) (b := l4_3.toInt) rfl rfl c17
          exact j_156  (by omega)
        · have f8 : l4_3.toInt < 256 := i_nle (a := 256) (b := l4_3.toInt) rfl rfl c17
          refine ⟨i_in (by omega) (by omega), ?_⟩
          intro x26 ex26
          intro x37 ex37
          have f9 : x37.toInt = l4_3.toInt * 20 := i_mul (a := l4_3.toInt) (b := 20) ex37 rfl rfl (by omega) (by omega)
          refine ⟨(i_nn (a := x37.toInt) rfl (by omega)), (i_nn (a := 0) rfl (by omega)), (i_nn (a := 20) rfl (by omega)), i_cp (a := x37.toInt) (b := 20) rfl rfl (by omega) (by omega) (by omega), i_cp (a := 0) (b := 20) rfl rfl (by omega) (by omega) (by omega), ?_⟩
          intro g45 eg45
          refine ok_X5_kindOf (by omega) (by omega) (fun r54 f10 => ?_)
          have j_150 : ∀ (v_nextCount_150 : Int32) (v_stackCount_150 : Int32) (v_nowAt_150 : Nat → Int32) (v_nowCells_150 : Nat → Int32) (v_seen_150 : Nat → Int32) (v_waits_150 : Nat → Int32) (v_cells_150 : Nat → Int32) (v_stack_150 : Nat → Int32) (v_kept_150 : Nat → Int32), v_nextCount.toInt ≤ v_nextCount_150.toInt → v_nextCount_3.toInt ≤ v_nextCount_150.toInt → w_X3_goAlong_v1_150 Q (w_X3_goAlong_v1_3 p1 p2 na3_items v_width v_nowCount v_stamp v_program_count v_program_kinds v_program_subjects v_program_nexts v_program_others v_edges v_program_tree_count v_program_tree_ranges v_program_tree_sort v_program_tree_value v_program_tree_low v_program_tree_high v_program_tree_withinCase v_program_tree_rangeBegin v_program_tree_rangeEnd Q a3_count a3_over a3_items n_3) l4_3 v_nextCount_150 v_stackCount_150 v_nowAt_150 v_nowCells_150 v_seen_150 v_waits_150 v_cells_150 v_stack_150 v_kept_150 := by
            intro v_nextCount_150 v_stackCount_150 v_nowAt_150 v_nowCells_150 v_seen_150 v_waits_150 v_cells_150 v_stack_150 v_kept_150 f11 f12
            unfold w_X3_goAlong_v1_150
            intro x150 ex150
            have f13 : x150.toInt = l4_3.toInt + 1 := i_add (a := l4_3.toInt) (b := 1) ex150 rfl rfl (by omega) (by omega)
            exact ih_3 x150 v_nextCount_150 v_stackCount_150 v_nowAt_150 v_nowCells_150 v_seen_150 v_waits_150 v_cells_150 v_stack_150 v_kept_150 (by omega) (by omega) (by omega) (by have h8_0 := i_rng l4_3; have h8_1 := i_rng x150; omega)
          refine ⟨fun c59 => ?_, fun c59 => ?_⟩
          · have f14 : r54.toInt = 6 := i_eq (a := r54.toInt) (b := 6) rfl rfl c59
            have j_136 : ((p2.toInt = 0) ∨ (p1.toInt = a3_count.toInt)) → w_X3_goAlong_v1_136 p1 na3_items v_width Q a3_count a3_over a3_items v_nextCount_3 v_stackCount_3 v_nowAt_3 v_nowCells_3 v_seen_3 v_waits_3 g45 v_stack_3 v_kept_3 := by
              intro f15
              unfold w_X3_goAlong_v1_136
              intro g142 eg142
              refine ok_X3_tell (by omega) (fun r145_0 r145_1 r145_2 f16 f17 f18 f19 f20 => ?_)
              exact hq 1 r145_0 r145_1 r145_2 v_nextCount_3 v_stackCount_3 v_nowAt_3 v_nowCells_3 v_seen_3 v_waits_3 g142 v_stack_3 v_kept_3 (by omega) (by omega)
            refine ⟨fun c122 => ?_, fun c122 => ?_⟩
            · have f21 : p2.toInt = 0 := i_eq (a := p2.toInt) (b := 0) rfl rfl c122
              exact j_136  (by omega)
            · have f22 : p2.toInt ≠ 0 := i_ne (a := p2.toInt) (b := 0) rfl rfl c122
              refine ⟨fun c133 => ?_, fun c133 => ?_⟩
              · have f23 : p1.toInt ≠ a3_count.toInt := i_ne (a := p1.toInt) (b := a3_count.toInt) rfl rfl c133
                exact j_150 v_nextCount_3 v_stackCount_3 v_nowAt_3 v_nowCells_3 v_seen_3 v_waits_3 g45 v_stack_3 v_kept_3 (by omega) (by omega)
              · have f24 : p1.toInt = a3_count.toInt := i_eq (a := p1.toInt) (b := a3_count.toInt) rfl rfl c133
                exact j_136  (by omega)
          · have f25 : r54.toInt ≠ 6 := i_ne (a := r54.toInt) (b := 6) rfl rfl c59
            refine ⟨fun c70 => ?_, fun c70 => ?_⟩
            · have f26 : a3_count.toInt ≤ p1.toInt := i_le (a := a3_count.toInt) (b := p1.toInt) rfl rfl c70
              exact j_150 v_nextCount_3 v_stackCount_3 v_nowAt_3 v_nowCells_3 v_seen_3 v_waits_3 g45 v_stack_3 v_kept_3 (by omega) (by omega)
            · have f27 : p1.toInt < a3_count.toInt := i_nle (a := a3_count.toInt) (b := p1.toInt) rfl rfl c70
              refine ok_X7_at (by omega) (by omega) (by omega) (fun r84 f28 => ?_)
              refine ok_X5_takes (by omega) (by omega) (by omega) (by omega) (by omega) (by omega) (fun r87 f29 f30 => ?_)
              refine ⟨fun c90 => ?_, fun c90 => ?_⟩
              · have f31 : r87.toInt = 0 := i_eq (a := r87.toInt) (b := 0) rfl rfl c90
                exact j_150 v_nextCount_3 v_stackCount_3 v_nowAt_3 v_nowCells_3 v_seen_3 v_waits_3 g45 v_stack_3 v_kept_3 (by omega) (by omega)
              · have f32 : r87.toInt ≠ 0 := i_ne (a := r87.toInt) (b := 0) rfl rfl c90
                refine ok_X5_nextOf (by omega) (by omega) (fun r100 f33 => ?_)
                refine ok_X5_otherOf (by omega) (by omega) (fun r109 f34 => ?_)
                intro x114 ex114
                have f35 : x114.toInt = p1.toInt + 1 := i_add (a := p1.toInt) (b := 1) ex114 rfl rfl (by have h8_1 := i_rng a3_count; have h8_2 := i_rng p1; have h8_3 := i_rng r84; omega) (by omega)
                refine ok_X3_spread (by omega) (by omega) (fun r115_0 r115_1 r115_2 r115_3 r115_4 r115_5 r115_6 r115_7 r115_8 f36 f37 f38 => ?_)
                exact j_150 r115_0 r115_1 r115_2 r115_3 r115_4 r115_5 r115_6 r115_7 r115_8 (by omega) (by omega)
  exact ⟨(256 : Int).toNat + 1, j_3   ((256 : Int).toNat + 1) 0 v_nextCount v_stackCount v_nowAt v_nowCells v_seen v_waits v_cells v_stack v_kept (by omega) (by omega) (by omega) (by omega)⟩
