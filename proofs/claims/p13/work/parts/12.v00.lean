set_option maxHeartbeats 4000000 in
theorem ok_X3_goAlong_w1 {p1 : Int32} {p2 : Int32} {a3_count : Int32} {a3_over : Bool} {a3_items : Nat → Int32} {na3_items : Nat} {v_width : Int32} {v_nowCount : Int32} {v_nextCount : Int32} {v_stamp : Int32} {v_stackCount : Int32} {v_program_count : Int32} {v_program_kinds : Nat → Int32} {v_program_subjects : Nat → Int32} {v_program_nexts : Nat → Int32} {v_program_others : Nat → Int32} {v_edges : Nat → Bool} {v_nextAt : Nat → Int32} {v_nextCells : Nat → Int32} {v_nowAt : Nat → Int32} {v_nowCells : Nat → Int32} {v_seen : Nat → Int32} {v_waits : Nat → Int32} {v_cells : Nat → Int32} {v_stack : Nat → Int32} {v_kept : Nat → Int32} {v_program_tree_count : Int32} {v_program_tree_ranges : Int32} {v_program_tree_sort : Nat → Int32} {v_program_tree_value : Nat → Int32} {v_program_tree_low : Nat → Int32} {v_program_tree_high : Nat → Int32} {v_program_tree_withinCase : Nat → Bool} {v_program_tree_rangeBegin : Nat → Int32} {v_program_tree_rangeEnd : Nat → Int32} {Q : Int32 → Int32 → Bool → (Nat → Int32) → Int32 → Int32 → (Nat → Int32) → (Nat → Int32) → (Nat → Int32) → (Nat → Int32) → (Nat → Int32) → (Nat → Int32) → (Nat → Int32) → Prop} (a0 : 0 ≤ a3_count.toInt) (a1 : a3_count.toInt ≤ (na3_items : Int)) (a2 : (na3_items : Int) ≤ 1000) (a3 : 0 ≤ v_program_count.toInt) (a4 : v_program_count.toInt ≤ 512) (a5 : 0 ≤ v_program_tree_count.toInt) (a6 : v_program_tree_count.toInt ≤ 256) (a7 : 0 ≤ v_program_tree_ranges.toInt) (a8 : v_program_tree_ranges.toInt ≤ 512) (a9 : 0 ≤ p2.toInt) (a10 : p2.toInt ≤ 1) (hq : ∀ (r : Int32) (oa3_count : Int32) (oa3_over : Bool) (oa3_items : Nat → Int32) (ov_nextCount : Int32) (ov_stackCount : Int32) (ov_nextAt : Nat → Int32) (ov_nextCells : Nat → Int32) (ov_seen : Nat → Int32) (ov_waits : Nat → Int32) (ov_cells : Nat → Int32) (ov_stack : Nat → Int32) (ov_kept : Nat → Int32), v_nextCount.toInt ≤ ov_nextCount.toInt → ((r.toInt = 1 ∧ 0 ≤ oa3_count.toInt + 1 ∧ 0 ≤ oa3_count.toInt ∧ oa3_count.toInt ≤ 20 ∧ oa3_count.toInt ≤ 21 ∧ oa3_count.toInt ≤ (na3_items : Int)) ∨ (r.toInt = 0 ∧ oa3_count.toInt = a3_count.toInt ∧ (bz oa3_over).toInt = (bz a3_over).toInt)) → Q r oa3_count oa3_over oa3_items ov_nextCount ov_stackCount ov_nextAt ov_nextCells ov_seen ov_waits ov_cells ov_stack ov_kept) : w_X3_goAlong_w1 p1 p2 a3_count a3_over a3_items na3_items v_width v_nowCount v_nextCount v_stamp v_stackCount v_program_count v_program_kinds v_program_subjects v_program_nexts v_program_others v_edges v_nextAt v_nextCells v_nowAt v_nowCells v_seen v_waits v_cells v_stack v_kept v_program_tree_count v_program_tree_ranges v_program_tree_sort v_program_tree_value v_program_tree_low v_program_tree_high v_program_tree_withinCase v_program_tree_rangeBegin v_program_tree_rangeEnd Q := by
  have q_t : (bz true).toInt = 1 := rfl
  have q_f : (bz false).toInt = 0 := rfl
  have q_0 : (0 : Int32).toInt = 0 := rfl
  have q_1 : (1 : Int32).toInt = 1 := rfl
  unfold w_X3_goAlong_w1
  have j_3 : ∀ n_3 : Nat, ∀ (l4_3 : Int32) (v_nextCount_3 : Int32) (v_stackCount_3 : Int32) (v_nextAt_3 : Nat → Int32) (v_nextCells_3 : Nat → Int32) (v_seen_3 : Nat → Int32) (v_waits_3 : Nat → Int32) (v_cells_3 : Nat → Int32) (v_stack_3 : Nat → Int32) (v_kept_3 : Nat → Int32), 0 ≤ l4_3.toInt → l4_3.toInt ≤ 256 → v_nextCount.toInt ≤ v_nextCount_3.toInt → ((-1) * l4_3.toInt + 256).toNat < n_3 → w_X3_goAlong_w1_3 p1 p2 na3_items v_width v_nowCount v_stamp v_program_count v_program_kinds v_program_subjects v_program_nexts v_program_others v_edges v_nowAt v_nowCells v_program_tree_count v_program_tree_ranges v_program_tree_sort v_program_tree_value v_program_tree_low v_program_tree_high v_program_tree_withinCase v_program_tree_rangeBegin v_program_tree_rangeEnd Q a3_count a3_over a3_items n_3 l4_3 v_nextCount_3 v_stackCount_3 v_nextAt_3 v_nextCells_3 v_seen_3 v_waits_3 v_cells_3 v_stack_3 v_kept_3 := by
    intro n_3
    induction n_3 with
    | zero =>
      intro l4_3 v_nextCount_3 v_stackCount_3 v_nextAt_3 v_nextCells_3 v_seen_3 v_waits_3 v_cells_3 v_stack_3 v_kept_3 f1 f2 f3 hm_3
      exfalso; omega
    | succ n_3 ih_3 =>
      intro l4_3 v_nextCount_3 v_stackCount_3 v_nextAt_3 v_nextCells_3 v_seen_3 v_waits_3 v_cells_3 v_stack_3 v_kept_3 f1 f2 f3 hm_3
      unfold w_X3_goAlong_w1_3
      unfold w_X3_goAlong_w1_3B
      have j_156 : ((v_nowCount.toInt ≤ l4_3.toInt) ∨ (l4_3.toInt + 1 ≤ v_nowCount.toInt ∧ 256 ≤ l4_3.toInt)) → w_X3_goAlong_w1_156 Q a3_count a3_over a3_items v_nextCount_3 v_stackCount_3 v_nextAt_3 v_nextCells_3 v_seen_3 v_waits_3 v_cells_3 v_stack_3 v_kept_3 := by
        intro f4
        unfold w_X3_goAlong_w1_156
        exact hq 0 a3_count a3_over a3_items v_nextCount_3 v_stackCount_3 v_nextAt_3 v_nextCells_3 v_seen_3 v_waits_3 v_cells_3 v_stack_3 v_kept_3 (by omega) (by omega)
      refine ⟨fun c9 => ?_, fun c9 => ?_⟩
      · have f5 : v_nowCount.toInt ≤ l4_3.toInt := i_le (a := v_nowCount.toInt) (b := l4_3.toInt) rfl rfl c9
        exact j_156  (by omega)
      · have f6 : l4_3.toInt < v_nowCount.toInt := i_nle (a := v_nowCount.toInt) (b := l4_3.toInt) rfl rfl c9
        refine ⟨fun c17 => ?_, fun c17 => ?_⟩
        · have f7 : 256 ≤ l4_3.toInt := i_le (a := 256) (b := l4_3.toInt) rfl rfl c17
          exact j_156  (by omega)
        · have f8 : l4_3.toInt < 256 := i_nle (a := 256) (b := l4_3.toInt) rfl rfl c17
          refine ⟨i_in (by omega) (by omega), ?_⟩
          intro x26 ex26
          intro x37 ex37
          have f9 : x37.toInt = l4_3.toInt * 20 := i_mul (a := l4_3.toInt) (b := 20) ex37 rfl rfl (by omega) (by omega)
          refine ⟨(i_nn (a := x37.toInt) rfl (by omega)), (i_nn (a := 0) rfl (by omega)), (i_nn (a := 20) rfl (by omega)), i_cp (a := x37.toInt) (b := 20) rfl rfl (by omega) (by omega) (by omega), i_cp (a := 0) (b := 20) rfl rfl (by omega) (by omega) (by omega), ?_⟩
          intro g45 eg45
          refine ok_X5_kindOf (by omega) (by omega) (fun r54 f10 => ?_)
          have j_150 : ∀ (v_nextCount_150 : Int32) (v_stackCount_150 : Int32) (v_nextAt_150 : Nat → Int32) (v_nextCells_150 : Nat → Int32) (v_seen_150 : Nat → Int32) (v_waits_150 : Nat → Int32) (v_cells_150 : Nat → Int32) (v_stack_150 : Nat → Int32) (v_kept_150 : Nat → Int32), v_nextCount.toInt ≤ v_nextCount_150.toInt → v_nextCount_3.toInt ≤ v_nextCount_150.toInt → w_X3_goAlong_w1_150 Q (w_X3_goAlong_w1_3 p1 p2 na3_items v_width v_nowCount v_stamp v_program_count v_program_kinds v_program_subjects v_program_nexts v_program_others v_edges v_nowAt v_nowCells v_program_tree_count v_program_tree_ranges v_program_tree_sort v_program_tree_value v_program_tree_low v_program_tree_high v_program_tree_withinCase v_program_tree_rangeBegin v_program_tree_rangeEnd Q a3_count a3_over a3_items n_3) l4_3 v_nextCount_150 v_stackCount_150 v_nextAt_150 v_nextCells_150 v_seen_150 v_waits_150 v_cells_150 v_stack_150 v_kept_150 := by
            intro v_nextCount_150 v_stackCount_150 v_nextAt_150 v_nextCells_150 v_seen_150 v_waits_150 v_cells_150 v_stack_150 v_kept_150 f11 f12
            unfold w_X3_goAlong_w1_150
            intro x150 ex150
            have f13 : x150.toInt = l4_3.toInt + 1 := i_add (a := l4_3.toInt) (b := 1) ex150 rfl rfl (by omega) (by omega)
            exact ih_3 x150 v_nextCount_150 v_stackCount_150 v_nextAt_150 v_nextCells_150 v_seen_150 v_waits_150 v_cells_150 v_stack_150 v_kept_150  (by omega) (by omega) (by omega) (by have h8_0 := i_rng l4_3; have h8_1 := i_rng x150; omega)
          refine ⟨fun c59 => ?_, fun c59 => ?_⟩
          · have f14 : r54.toInt = 6 := i_eq (a := r54.toInt) (b := 6) rfl rfl c59
            have j_136 : ((p2.toInt = 0) ∨ (p1.toInt = a3_count.toInt)) → w_X3_goAlong_w1_136 p1 na3_items v_width Q a3_count a3_over a3_items v_nextCount_3 v_stackCount_3 v_nextAt_3 v_nextCells_3 v_seen_3 v_waits_3 g45 v_stack_3 v_kept_3 := by
              intro f15
              unfold w_X3_goAlong_w1_136
              intro g142 eg142
              refine ok_X3_tell (by omega) (fun r145_0 r145_1 r145_2 f16 f17 f18 f19 f20 => ?_)
              exact hq 1 r145_0 r145_1 r145_2 v_nextCount_3 v_stackCount_3 v_nextAt_3 v_nextCells_3 v_seen_3 v_waits_3 g142 v_stack_3 v_kept_3 (by omega) (by omega)
            refine ⟨fun c122 => ?_, fun c122 => ?_⟩
            · have f21 : p2.toInt = 0 := i_eq (a := p2.toInt) (b := 0) rfl rfl c122
              exact j_136  (by omega)
            · have f22 : p2.toInt ≠ 0 := i_ne (a := p2.toInt) (b := 0) rfl rfl c122
              refine ⟨fun c133 => ?_, fun c133 => ?_⟩
              · have f23 : p1.toInt ≠ a3_count.toInt := i_ne (a := p1.toInt) (b := a3_count.toInt) rfl rfl c133
                exact j_150 v_nextCount_3 v_stackCount_3 v_nextAt_3 v_nextCells_3 v_seen_3 v_waits_3 g45 v_stack_3 v_kept_3 (by omega) (by omega)
              · have f24 : p1.toInt = a3_count.toInt := i_eq (a := p1.toInt) (b := a3_count.toInt) rfl rfl c133
                exact j_136  (by omega)
          · have f25 : r54.toInt ≠ 6 := i_ne (a := r54.toInt) (b := 6) rfl rfl c59
            refine ⟨fun c70 => ?_, fun c70 => ?_⟩
            · have f26 : a3_count.toInt ≤ p1.toInt := i_le (a := a3_count.toInt) (b := p1.toInt) rfl rfl c70
              exact j_150 v_nextCount_3 v_stackCount_3 v_nextAt_3 v_nextCells_3 v_seen_3 v_waits_3 g45 v_stack_3 v_kept_3 (by omega) (by omega)
            · have f27 : p1.toInt < a3_count.toInt := i_nle (a := a3_count.toInt) (b := p1.toInt) rfl rfl c70
              refine ok_X7_at (by omega) (by omega) (by omega) (fun r84 f28 => ?_)
              refine ok_X5_takes (by omega) (by omega) (by omega) (by omega) (by omega) (by omega) (fun r87 f29 f30 => ?_)
              refine ⟨fun c90 => ?_, fun c90 => ?_⟩
              · have f31 : r87.toInt = 0 := i_eq (a := r87.toInt) (b := 0) rfl rfl c90
                exact j_150 v_nextCount_3 v_stackCount_3 v_nextAt_3 v_nextCells_3 v_seen_3 v_waits_3 g45 v_stack_3 v_kept_3 (by omega) (by omega)
              · have f32 : r87.toInt ≠ 0 := i_ne (a := r87.toInt) (b := 0) rfl rfl c90
                refine ok_X5_nextOf (by omega) (by omega) (fun r100 f33 => ?_)
                refine ok_X5_otherOf (by omega) (by omega) (fun r109 f34 => ?_)
                intro x114 ex114
                have f35 : x114.toInt = p1.toInt + 1 := i_add (a := p1.toInt) (b := 1) ex114 rfl rfl (by have h8_1 := i_rng a3_count; have h8_2 := i_rng p1; have h8_3 := i_rng r84; omega) (by omega)
                refine ok_X3_spread (by omega) (by omega) (fun r115_0 r115_1 r115_2 r115_3 r115_4 r115_5 r115_6 r115_7 r115_8 f36 f37 f38 => ?_)
                exact j_150 r115_0 r115_1 r115_2 r115_3 r115_4 r115_5 r115_6 r115_7 r115_8 (by omega) (by omega)
  exact ⟨(256 : Int).toNat + 1, j_3   ((256 : Int).toNat + 1) 0 v_nextCount v_stackCount v_nextAt v_nextCells v_seen v_waits v_cells v_stack v_kept  (by omega) (by omega) (by omega) (by omega)⟩
set_option maxHeartbeats 4000000 in
theorem ok_J7_fill_53178 {p1 : Int32} {a0_ : Nat → Int32} {Q : (Nat → Int32) → Prop} (hq : ∀ (oa0_ : Nat → Int32), Q oa0_) : w_J7_fill_53178 p1 a0_ Q := by
  have q_t : (bz true).toInt = 1 := rfl
  have q_f : (bz false).toInt = 0 := rfl
  have q_0 : (0 : Int32).toInt = 0 := rfl
  have q_20 : (20 : Int32).toInt = 20 := rfl
  unfold w_J7_fill_53178
  have j_5 : ∀ n_5 : Nat, ∀ (l2_5 : Int32) (a0__5 : Nat → Int32), 0 ≤ l2_5.toInt → ((-1) * l2_5.toInt + 2147483648).toNat < n_5 → w_J7_fill_53178_5 p1 Q 20 n_5 l2_5 a0__5 := by
    intro n_5
    induction n_5 with
    | zero =>
      intro l2_5 a0__5 f1 hm_5
      exfalso; omega
    | succ n_5 ih_5 =>
      intro l2_5 a0__5 f1 hm_5
      unfold w_J7_fill_53178_5
      unfold w_J7_fill_53178_5B
      refine ⟨fun c7 => ?_, fun c7 => ?_⟩
      · have f2 : 20 ≤ l2_5.toInt := i_le (a := 20) (b := l2_5.toInt) rfl rfl c7
        exact hq a0__5 
      · have f3 : l2_5.toInt < 20 := i_nle (a := 20) (b := l2_5.toInt) rfl rfl c7
        refine ⟨i_in (by omega) (by omega), ?_⟩
        intro g13 eg13
        intro x14 ex14
        have f4 : x14.toInt = l2_5.toInt + 1 := i_add (a := l2_5.toInt) (b := 1) ex14 rfl rfl (by omega) (by omega)
        exact ih_5 x14 g13  (by omega) (by have h8_0 := i_rng l2_5; have h8_1 := i_rng x14; omega)
  exact ⟨(2147483648 : Int).toNat + 1, j_5   ((2147483648 : Int).toNat + 1) 0 a0_  (by omega) (by omega)⟩
set_option maxHeartbeats 4000000 in
theorem ok_X3_run {p3 : Int32} {p4 : Int32} {a2_count : Int32} {a2_over : Bool} {a2_items : Nat → Int32} {na2_items : Nat} {v_nowCount : Int32} {v_stamp : Int32} {v_stackCount : Int32} {v_program_start : Int32} {v_program_kinds : Nat → Int32} {v_program_subjects : Nat → Int32} {v_program_nexts : Nat → Int32} {v_program_others : Nat → Int32} {v_edges : Nat → Bool} {v_nowAt : Nat → Int32} {v_nowCells : Nat → Int32} {v_nextAt : Nat → Int32} {v_nextCells : Nat → Int32} {v_seen : Nat → Int32} {v_waits : Nat → Int32} {v_cells : Nat → Int32} {v_stack : Nat → Int32} {v_kept : Nat → Int32} {a1_there : Bool} {a1_count : Int32} {a1_captures : Int32} {a1_ranges : Int32} {a1_sort : Nat → Int32} {a1_end : Nat → Int32} {a1_before : Nat → Int32} {a1_last : Nat → Int32} {a1_value : Nat → Int32} {a1_low : Nat → Int32} {a1_high : Nat → Int32} {a1_withinCase : Nat → Bool} {a1_rangeBegin : Nat → Int32} {a1_rangeEnd : Nat → Int32} {h10 : Nat} {h11 : Nat} {h12 : Nat} {h13 : Nat} {Q : Int32 → Int32 → Bool → (Nat → Int32) → Int32 → Int32 → Int32 → Int32 → Int32 → Int32 → Int32 → (Nat → Int32) → (Nat → Int32) → (Nat → Int32) → (Nat → Int32) → (Nat → Bool) → Nat → (Nat → Int32) → Nat → (Nat → Int32) → Nat → (Nat → Int32) → Nat → (Nat → Int32) → (Nat → Int32) → (Nat → Int32) → (Nat → Int32) → (Nat → Int32) → (Nat → Int32) → Prop} (a0 : 0 ≤ a2_count.toInt) (a1 : a2_count.toInt ≤ (na2_items : Int)) (a2 : (na2_items : Int) ≤ 1000) (a3 : 0 ≤ a1_count.toInt) (a4 : a1_count.toInt ≤ 256) (a5 : 0 ≤ a1_ranges.toInt) (a6 : a1_ranges.toInt ≤ 512) (a7 : 0 ≤ p4.toInt) (a8 : p4.toInt ≤ 1) (b0 : rp (fun k v => -1 ≤ v ∧ v ≤ 255) a1_last 0 a1_count.toInt) (b1 : rp (fun k v => k < v ∧ v ≤ 256) a1_end 0 a1_count.toInt) (b2 : rp (fun k v => v < k ∧ -1 ≤ v) a1_before 0 a1_count.toInt) (hq : ∀ (r : Int32) (oa2_count : Int32) (oa2_over : Bool) (oa2_items : Nat → Int32) (ov_width : Int32) (ov_nowCount : Int32) (ov_nextCount : Int32) (ov_stamp : Int32) (ov_stackCount : Int32) (ov_program_start : Int32) (ov_program_count : Int32) (ov_program_kinds : Nat → Int32) (ov_program_subjects : Nat → Int32) (ov_program_nexts : Nat → Int32) (ov_program_others : Nat → Int32) (ov_edges : Nat → Bool) (oh10 : Nat) (ov_nowAt : Nat → Int32) (oh11 : Nat) (ov_nowCells : Nat → Int32) (oh12 : Nat) (ov_nextAt : Nat → Int32) (oh13 : Nat) (ov_nextCells : Nat → Int32) (ov_seen : Nat → Int32) (ov_waits : Nat → Int32) (ov_cells : Nat → Int32) (ov_stack : Nat → Int32) (ov_kept : Nat → Int32), 0 ≤ ov_program_count.toInt → ov_program_count.toInt ≤ 512 → 0 ≤ oa2_count.toInt → oa2_count.toInt ≤ (na2_items : Int) → 0 ≤ r.toInt → r.toInt ≤ 1 → 0 ≤ ov_nextCount.toInt → ov_width.toInt ≤ 20 → Q r oa2_count oa2_over oa2_items ov_width ov_nowCount ov_nextCount ov_stamp ov_stackCount ov_program_start ov_program_count ov_program_kinds ov_program_subjects ov_program_nexts ov_program_others ov_edges oh10 ov_nowAt oh11 ov_nowCells oh12 ov_nextAt oh13 ov_nextCells ov_seen ov_waits ov_cells ov_stack ov_kept) : w_X3_run p3 p4 a2_count a2_over a2_items na2_items v_nowCount v_stamp v_stackCount v_program_start v_program_kinds v_program_subjects v_program_nexts v_program_others v_edges v_nowAt v_nowCells v_nextAt v_nextCells v_seen v_waits v_cells v_stack v_kept a1_there a1_count a1_captures a1_ranges a1_sort a1_end a1_before a1_last a1_value a1_low a1_high a1_withinCase a1_rangeBegin a1_rangeEnd h10 h11 h12 h13 Q := by
  have q_t : (bz true).toInt = 1 := rfl
  have q_f : (bz false).toInt = 0 := rfl
  have q_m1 : ((-1) : Int32).toInt = (-1) := rfl
  have q_0 : (0 : Int32).toInt = 0 := rfl
  unfold w_X3_run
  refine ok_X5_write (by omega) (by omega) (by omega) (by omega) (rp_mono b0 (by omega) (by omega)) (rp_mono b1 (by omega) (by omega)) (rp_mono b2 (by omega) (by omega)) (fun r5_0 r5_1 r5_2 r5_3 r5_4 r5_5 f1 f2 => ?_)
  intro x100021 ex100021
  intro x100023 ex100023
  intro x100024 ex100024
  have f3 : ((x100024.toInt = 20 ∧ 20 ≤ x100023.toInt) ∨ (x100024.toInt = x100023.toInt ∧ x100023.toInt ≤ 20)) := by have h9 := i_min (a := x100023.toInt) (b := 20) ex100024 rfl rfl; omega
  intro x100041 ex100041
  have j_100051 : ∀ n_100051 : Nat, ∀ (l6_100051 : Int32) (l7_100051 : Int32) (a2_count_100051 : Int32) (a2_over_100051 : Bool) (a2_items_100051 : Nat → Int32) (v_nowCount_100051 : Int32) (v_nextCount_100051 : Int32) (v_stamp_100051 : Int32) (v_stackCount_100051 : Int32) (v_edges_100051 : Nat → Bool) (v_nowAt_100051 : Nat → Int32) (v_nowCells_100051 : Nat → Int32) (v_nextAt_100051 : Nat → Int32) (v_nextCells_100051 : Nat → Int32) (v_seen_100051 : Nat → Int32) (v_waits_100051 : Nat → Int32) (v_cells_100051 : Nat → Int32) (v_stack_100051 : Nat → Int32) (v_kept_100051 : Nat → Int32), 0 ≤ l6_100051.toInt → l6_100051.toInt ≤ 1 → p3.toInt ≤ l7_100051.toInt → 0 ≤ v_nextCount_100051.toInt → 0 ≤ a2_count_100051.toInt → a2_count_100051.toInt ≤ (na2_items : Int) → ((-1) * l7_100051.toInt + 2147483648).toNat < n_100051 → w_X3_run_100051 p3 p4 na2_items a1_count a1_ranges a1_sort a1_value a1_low a1_high a1_withinCase a1_rangeBegin a1_rangeEnd h10 h11 h12 h13 Q x100024 r5_0 r5_1 r5_2 r5_3 r5_4 r5_5 n_100051 l6_100051 l7_100051 a2_count_100051 a2_over_100051 a2_items_100051 v_nowCount_100051 v_nextCount_100051 v_stamp_100051 v_stackCount_100051 v_edges_100051 v_nowAt_100051 v_nowCells_100051 v_nextAt_100051 v_nextCells_100051 v_seen_100051 v_waits_100051 v_cells_100051 v_stack_100051 v_kept_100051 := by
    intro n_100051
    induction n_100051 with
    | zero =>
      intro l6_100051 l7_100051 a2_count_100051 a2_over_100051 a2_items_100051 v_nowCount_100051 v_nextCount_100051 v_stamp_100051 v_stackCount_100051 v_edges_100051 v_nowAt_100051 v_nowCells_100051 v_nextAt_100051 v_nextCells_100051 v_seen_100051 v_waits_100051 v_cells_100051 v_stack_100051 v_kept_100051 f4 f5 f6 f7 f8 f9 hm_100051
      exfalso; omega
    | succ n_100051 ih_100051 =>
      intro l6_100051 l7_100051 a2_count_100051 a2_over_100051 a2_items_100051 v_nowCount_100051 v_nextCount_100051 v_stamp_100051 v_stackCount_100051 v_edges_100051 v_nowAt_100051 v_nowCells_100051 v_nextAt_100051 v_nextCells_100051 v_seen_100051 v_waits_100051 v_cells_100051 v_stack_100051 v_kept_100051 f4 f5 f6 f7 f8 f9 hm_100051
      unfold w_X3_run_100051
      unfold w_X3_run_100051B
      have j_100168 : ∀ (l6_100168 : Int32) (a2_count_100168 : Int32) (a2_over_100168 : Bool) (a2_items_100168 : Nat → Int32) (v_nowCount_100168 : Int32) (v_nextCount_100168 : Int32) (v_stamp_100168 : Int32) (v_stackCount_100168 : Int32) (v_edges_100168 : Nat → Bool) (v_nowAt_100168 : Nat → Int32) (v_nowCells_100168 : Nat → Int32) (v_nextAt_100168 : Nat → Int32) (v_nextCells_100168 : Nat → Int32) (v_seen_100168 : Nat → Int32) (v_waits_100168 : Nat → Int32) (v_cells_100168 : Nat → Int32) (v_stack_100168 : Nat → Int32) (v_kept_100168 : Nat → Int32), 0 ≤ a2_count_100168.toInt → a2_count_100168.toInt ≤ (na2_items : Int) → 0 ≤ l6_100168.toInt → l6_100168.toInt ≤ 1 → 0 ≤ v_nextCount_100168.toInt → w_X3_run_100168 h10 h11 h12 h13 Q l6_100168 a2_count_100168 a2_over_100168 a2_items_100168 x100024 v_nowCount_100168 v_nextCount_100168 v_stamp_100168 v_stackCount_100168 r5_0 r5_1 r5_2 r5_3 r5_4 r5_5 v_edges_100168 v_nowAt_100168 v_nowCells_100168 v_nextAt_100168 v_nextCells_100168 v_seen_100168 v_waits_100168 v_cells_100168 v_stack_100168 v_kept_100168 := by
        intro l6_100168 a2_count_100168 a2_over_100168 a2_items_100168 v_nowCount_100168 v_nextCount_100168 v_stamp_100168 v_stackCount_100168 v_edges_100168 v_nowAt_100168 v_nowCells_100168 v_nextAt_100168 v_nextCells_100168 v_seen_100168 v_waits_100168 v_cells_100168 v_stack_100168 v_kept_100168 f10 f11 f12 f13 f14
        unfold w_X3_run_100168
        refine ⟨i_01 (by omega) (by omega), ?_⟩
        exact hq l6_100168 a2_count_100168 a2_over_100168 a2_items_100168 x100024 v_nowCount_100168 v_nextCount_100168 v_stamp_100168 v_stackCount_100168 r5_0 r5_1 r5_2 r5_3 r5_4 r5_5 v_edges_100168 h10 v_nowAt_100168 h11 v_nowCells_100168 h12 v_nextAt_100168 h13 v_nextCells_100168 v_seen_100168 v_waits_100168 v_cells_100168 v_stack_100168 v_kept_100168 (by omega) (by omega) (by omega) (by omega) (by omega) (by omega) (by omega) (by omega)
      refine ⟨fun c100060 => ?_, fun c100060 => ?_⟩
      · have f15 : a2_count_100051.toInt < l7_100051.toInt := i_lt (a := a2_count_100051.toInt) (b := l7_100051.toInt) rfl rfl c100060
        exact j_100168 l6_100051 a2_count_100051 a2_over_100051 a2_items_100051 v_nowCount_100051 v_nextCount_100051 v_stamp_100051 v_stackCount_100051 v_edges_100051 v_nowAt_100051 v_nowCells_100051 v_nextAt_100051 v_nextCells_100051 v_seen_100051 v_waits_100051 v_cells_100051 v_stack_100051 v_kept_100051 (by omega) (by omega) (by omega) (by omega) (by omega)
      · have f16 : l7_100051.toInt ≤ a2_count_100051.toInt := i_nlt (a := a2_count_100051.toInt) (b := l7_100051.toInt) rfl rfl c100060
        have j_100115 : ∀ (v_nextCount_100115 : Int32) (v_stackCount_100115 : Int32) (v_edges_100115 : Nat → Bool) (v_nextAt_100115 : Nat → Int32) (v_nextCells_100115 : Nat → Int32) (v_seen_100115 : Nat → Int32) (v_waits_100115 : Nat → Int32) (v_cells_100115 : Nat → Int32) (v_stack_100115 : Nat → Int32) (v_kept_100115 : Nat → Int32), v_nextCount_100051.toInt ≤ v_nextCount_100115.toInt → ((v_nextCount_100115.toInt = v_nextCount_100051.toInt) ∨ (v_nextCount_100115.toInt = v_nextCount_100051.toInt ∧ l6_100051.toInt = 0) ∨ (l6_100051.toInt = 0 ∧ v_nextCount_100051.toInt ≤ v_nextCount_100115.toInt ∧ 0 ≤ v_stackCount_100115.toInt + 1 ∧ 0 ≤ v_stackCount_100115.toInt)) → w_X3_run_100115 p3 p4 na2_items a1_count a1_ranges a1_sort a1_value a1_low a1_high a1_withinCase a1_rangeBegin a1_rangeEnd h10 h11 h12 h13 x100024 r5_0 r5_1 r5_2 r5_3 r5_4 r5_5 Q (w_X3_run_100051 p3 p4 na2_items a1_count a1_ranges a1_sort a1_value a1_low a1_high a1_withinCase a1_rangeBegin a1_rangeEnd h10 h11 h12 h13 Q x100024 r5_0 r5_1 r5_2 r5_3 r5_4 r5_5 n_100051) l6_100051 l7_100051 a2_count_100051 a2_over_100051 a2_items_100051 v_nowCount_100051 v_nextCount_100115 v_stamp_100051 v_stackCount_100115 v_edges_100115 v_nowAt_100051 v_nowCells_100051 v_nextAt_100115 v_nextCells_100115 v_seen_100115 v_waits_100115 v_cells_100115 v_stack_100115 v_kept_100115 := by
          intro v_nextCount_100115 v_stackCount_100115 v_edges_100115 v_nextAt_100115 v_nextCells_100115 v_seen_100115 v_waits_100115 v_cells_100115 v_stack_100115 v_kept_100115 f17 f18
          unfold w_X3_run_100115
          refine ok_X3_exchangeLists  (fun r100116_0 r100116_1 r100116_2 f19 f20 => ?_)
          have j_200168 : ∀ (l6_200168 : Int32) (a2_count_200168 : Int32) (a2_over_200168 : Bool) (a2_items_200168 : Nat → Int32) (v_nextCount_200168 : Int32) (v_stackCount_200168 : Int32) (v_edges_200168 : Nat → Bool) (v_nowAt_200168 : Nat → Int32) (v_nowCells_200168 : Nat → Int32) (v_seen_200168 : Nat → Int32) (v_waits_200168 : Nat → Int32) (v_cells_200168 : Nat → Int32) (v_stack_200168 : Nat → Int32) (v_kept_200168 : Nat → Int32), 0 ≤ a2_count_200168.toInt → a2_count_200168.toInt ≤ (na2_items : Int) → 0 ≤ l6_200168.toInt → l6_200168.toInt ≤ 1 → 0 ≤ v_nextCount_200168.toInt → w_X3_run_200168 h10 h11 h12 h13 Q l6_200168 a2_count_200168 a2_over_200168 a2_items_200168 x100024 r100116_0 v_nextCount_200168 r100116_2 v_stackCount_200168 r5_0 r5_1 r5_2 r5_3 r5_4 r5_5 v_edges_200168 v_nowAt_200168 v_nowCells_200168 v_nextAt_100115 v_nextCells_100115 v_seen_200168 v_waits_200168 v_cells_200168 v_stack_200168 v_kept_200168 := by
            intro l6_200168 a2_count_200168 a2_over_200168 a2_items_200168 v_nextCount_200168 v_stackCount_200168 v_edges_200168 v_nowAt_200168 v_nowCells_200168 v_seen_200168 v_waits_200168 v_cells_200168 v_stack_200168 v_kept_200168 f21 f22 f23 f24 f25
            unfold w_X3_run_200168
            refine ⟨i_01 (by omega) (by omega), ?_⟩
            exact hq l6_200168 a2_count_200168 a2_over_200168 a2_items_200168 x100024 r100116_0 v_nextCount_200168 r100116_2 v_stackCount_200168 r5_0 r5_1 r5_2 r5_3 r5_4 r5_5 v_edges_200168 h12 v_nextAt_100115 h13 v_nextCells_100115 h10 v_nowAt_200168 h11 v_nowCells_200168 v_seen_200168 v_waits_200168 v_cells_200168 v_stack_200168 v_kept_200168 (by omega) (by omega) (by omega) (by omega) (by omega) (by omega) (by omega) (by omega)
          have j_200139 : w_X3_run_200139 p3 p4 na2_items a1_count a1_ranges a1_sort a1_value a1_low a1_high a1_withinCase a1_rangeBegin a1_rangeEnd h10 h11 h12 h13 x100024 r5_0 r5_1 r5_2 r5_3 r5_4 r5_5 Q (w_X3_run_100051 p3 p4 na2_items a1_count a1_ranges a1_sort a1_value a1_low a1_high a1_withinCase a1_rangeBegin a1_rangeEnd h10 h11 h12 h13 Q x100024 r5_0 r5_1 r5_2 r5_3 r5_4 r5_5 n_100051) l6_100051 l7_100051 a2_count_100051 a2_over_100051 a2_items_100051 r100116_0 r100116_1 r100116_2 v_stackCount_100115 v_edges_100115 v_nowAt_100051 v_nowCells_100051 v_nextAt_100115 v_nextCells_100115 v_seen_100115 v_waits_100115 v_cells_100115 v_stack_100115 v_kept_100115 := by
            unfold w_X3_run_200139
            intro x200143 ex200143
            have f26 : x200143.toInt = l7_100051.toInt + 1 := i_add (a := l7_100051.toInt) (b := 1) ex200143 rfl rfl (by have h8_1 := i_rng a2_count; have h8_2 := i_rng a2_count_100051; have h8_3 := i_rng l7_100051; have h8_4 := i_rng p3; omega) (by omega)
            refine ok_X3_markEdges (by omega) (by omega) (by omega) (fun r200144_0 => ?_)
            refine ok_X3_goAlong_w1 (by omega) (by omega) (by omega) (by omega) (by omega) (by omega) (by omega) (by omega) (by omega) (by omega) (by omega) (fun r200156 r200156_0 r200156_1 r200156_2 r200156_3 r200156_4 r200156_5 r200156_6 r200156_7 r200156_8 r200156_9 r200156_10 r200156_11 f27 f28 => ?_)
            intro x200159 ex200159
            have f29 : (0 ≤ x200159.toInt ∧ x200159.toInt ≤ 1) := i_or01 (a := l6_100051.toInt) (b := r200156.toInt) ex200159 rfl rfl (by omega) (by omega) (by omega) (by omega)
            intro x200162 ex200162
            have f30 : x200162.toInt = l7_100051.toInt + 1 := i_add (a := l7_100051.toInt) (b := 1) ex200162 rfl rfl (by have h8_0 := i_rng (bz a2_over_100051); have h8_1 := i_rng (bz r200156_1); have h8_3 := i_rng a2_count; have h8_4 := i_rng a2_count_100051; have h8_5 := i_rng l7_100051; have h8_6 := i_rng p3; have h8_7 := i_rng r200156; have h8_8 := i_rng r200156_0; have h8_9 := i_rng x200143; omega) (by omega)
            refine ⟨fun c200060 => ?_, fun c200060 => ?_⟩
            · have f31 : r200156_0.toInt < x200162.toInt := i_lt (a := r200156_0.toInt) (b := x200162.toInt) rfl rfl c200060
              exact j_200168 x200159 r200156_0 r200156_1 r200156_2 r200156_3 r200156_4 r200144_0 r200156_5 r200156_6 r200156_7 r200156_8 r200156_9 r200156_10 r200156_11 (by omega) (by omega) (by omega) (by omega) (by omega)
            · have f32 : x200162.toInt ≤ r200156_0.toInt := i_nlt (a := r200156_0.toInt) (b := x200162.toInt) rfl rfl c200060
              have j_200115 : ∀ (v_nextCount_200115 : Int32) (v_stackCount_200115 : Int32) (v_edges_200115 : Nat → Bool) (v_nowAt_200115 : Nat → Int32) (v_nowCells_200115 : Nat → Int32) (v_seen_200115 : Nat → Int32) (v_waits_200115 : Nat → Int32) (v_cells_200115 : Nat → Int32) (v_stack_200115 : Nat → Int32) (v_kept_200115 : Nat → Int32), ((v_nextCount_200115.toInt = r200156_3.toInt) ∨ (v_nextCount_200115.toInt = r200156_3.toInt ∧ x200159.toInt = 0) ∨ (x200159.toInt = 0 ∧ p4.toInt = 0 ∧ r200156_3.toInt ≤ v_nextCount_200115.toInt ∧ 0 ≤ v_stackCount_200115.toInt + 1 ∧ 0 ≤ v_stackCount_200115.toInt)) → w_X3_run_200115 p4 na2_items a1_count a1_ranges a1_sort a1_value a1_low a1_high a1_withinCase a1_rangeBegin a1_rangeEnd h10 h11 h12 h13 x100024 r5_0 r5_1 r5_2 r5_3 r5_4 r5_5 Q (w_X3_run_100051 p3 p4 na2_items a1_count a1_ranges a1_sort a1_value a1_low a1_high a1_withinCase a1_rangeBegin a1_rangeEnd h10 h11 h12 h13 Q x100024 r5_0 r5_1 r5_2 r5_3 r5_4 r5_5 n_100051) x200159 x200162 r200156_0 r200156_1 r200156_2 r100116_0 v_nextCount_200115 r100116_2 v_stackCount_200115 v_edges_200115 v_nowAt_200115 v_nowCells_200115 v_nextAt_100115 v_nextCells_100115 v_seen_200115 v_waits_200115 v_cells_200115 v_stack_200115 v_kept_200115 := by
                intro v_nextCount_200115 v_stackCount_200115 v_edges_200115 v_nowAt_200115 v_nowCells_200115 v_seen_200115 v_waits_200115 v_cells_200115 v_stack_200115 v_kept_200115 f33
                unfold w_X3_run_200115
                refine ok_X3_exchangeLists  (fun r200116_0 r200116_1 r200116_2 f34 f35 => ?_)
                have j_100139 : w_X3_run_100139 p4 na2_items a1_count a1_ranges a1_sort a1_value a1_low a1_high a1_withinCase a1_rangeBegin a1_rangeEnd x100024 r5_1 r5_2 r5_3 r5_4 r5_5 Q (w_X3_run_100051 p3 p4 na2_items a1_count a1_ranges a1_sort a1_value a1_low a1_high a1_withinCase a1_rangeBegin a1_rangeEnd h10 h11 h12 h13 Q x100024 r5_0 r5_1 r5_2 r5_3 r5_4 r5_5 n_100051) x200159 x200162 r200156_0 r200156_1 r200156_2 r200116_0 r200116_1 r200116_2 v_stackCount_200115 v_edges_200115 v_nowAt_200115 v_nowCells_200115 v_nextAt_100115 v_nextCells_100115 v_seen_200115 v_waits_200115 v_cells_200115 v_stack_200115 v_kept_200115 := by
                  unfold w_X3_run_100139
                  intro x100143 ex100143
                  have f36 : x100143.toInt = x200162.toInt + 1 := i_add (a := x200162.toInt) (b := 1) ex100143 rfl rfl (by have h8_0 := i_rng (bz a2_over_100051); have h8_1 := i_rng (bz r200156_1); have h8_3 := i_rng a2_count; have h8_4 := i_rng a2_count_100051; have h8_5 := i_rng l7_100051; have h8_6 := i_rng p3; have h8_7 := i_rng r200156; have h8_8 := i_rng r200156_0; have h8_9 := i_rng x200143; have h8_10 := i_rng x200162; omega) (by omega)
                  refine ok_X3_markEdges (by omega) (by omega) (by omega) (fun r100144_0 => ?_)
                  refine ok_X3_goAlong_w1 (by omega) (by omega) (by omega) (by omega) (by omega) (by omega) (by omega) (by omega) (by omega) (by omega) (by omega) (fun r100156 r100156_0 r100156_1 r100156_2 r100156_3 r100156_4 r100156_5 r100156_6 r100156_7 r100156_8 r100156_9 r100156_10 r100156_11 f37 f38 => ?_)
                  intro x100159 ex100159
                  have f39 : (0 ≤ x100159.toInt ∧ x100159.toInt ≤ 1) := i_or01 (a := x200159.toInt) (b := r100156.toInt) ex100159 rfl rfl (by omega) (by omega) (by omega) (by omega)
                  intro x100162 ex100162
                  have f40 : x100162.toInt = x200162.toInt + 1 := i_add (a := x200162.toInt) (b := 1) ex100162 rfl rfl (by have h8_0 := i_rng (bz a2_over_100051); have h8_1 := i_rng (bz r100156_1); have h8_2 := i_rng (bz r200156_1); have h8_4 := i_rng a2_count; have h8_5 := i_rng a2_count_100051; have h8_6 := i_rng l7_100051; have h8_7 := i_rng p3; have h8_8 := i_rng r100156; have h8_9 := i_rng r100156_0; have h8_10 := i_rng r200156; have h8_11 := i_rng r200156_0; omega) (by omega)
                  exact ih_100051 x100159 x100162 r100156_0 r100156_1 r100156_2 r200116_0 r100156_3 r200116_2 r100156_4 r100144_0 v_nowAt_200115 v_nowCells_200115 r100156_5 r100156_6 r100156_7 r100156_8 r100156_9 r100156_10 r100156_11  (by omega) (by omega) (by omega) (by omega) (by omega) (by omega) (by have h8_0 := i_rng l7_100051; have h8_1 := i_rng x100162; omega)
                refine ⟨fun c100123 => ?_, fun c100123 => ?_⟩
                · have f41 : r200116_0.toInt ≠ 0 := i_ne (a := r200116_0.toInt) (b := 0) rfl rfl c100123
                  exact j_100139  
                · have f42 : r200116_0.toInt = 0 := i_eq (a := r200116_0.toInt) (b := 0) rfl rfl c100123
                  refine ⟨fun c100128 => ?_, fun c100128 => ?_⟩
                  · have f43 : x200159.toInt ≠ 0 := i_ne (a := x200159.toInt) (b := 0) rfl rfl c100128
                    exact j_100168 x200159 r200156_0 r200156_1 r200156_2 r200116_0 r200116_1 r200116_2 v_stackCount_200115 v_edges_200115 v_nowAt_200115 v_nowCells_200115 v_nextAt_100115 v_nextCells_100115 v_seen_200115 v_waits_200115 v_cells_200115 v_stack_200115 v_kept_200115 (by omega) (by omega) (by omega) (by omega) (by omega)
                  · have f44 : x200159.toInt = 0 := i_eq (a := x200159.toInt) (b := 0) rfl rfl c100128
                    refine ⟨fun c100133 => ?_, fun c100133 => ?_⟩
                    · have f45 : p4.toInt = 0 := i_eq (a := p4.toInt) (b := 0) rfl rfl c100133
                      exact j_100139  
                    · have f46 : p4.toInt ≠ 0 := i_ne (a := p4.toInt) (b := 0) rfl rfl c100133
                      exact j_100168 x200159 r200156_0 r200156_1 r200156_2 r200116_0 r200116_1 r200116_2 v_stackCount_200115 v_edges_200115 v_nowAt_200115 v_nowCells_200115 v_nextAt_100115 v_nextCells_100115 v_seen_200115 v_waits_200115 v_cells_200115 v_stack_200115 v_kept_200115 (by omega) (by omega) (by omega) (by omega) (by omega)
              refine ⟨fun c200065 => ?_, fun c200065 => ?_⟩
              · have f47 : x200159.toInt ≠ 0 := i_ne (a := x200159.toInt) (b := 0) rfl rfl c200065
                exact j_200115 r200156_3 r200156_4 r200144_0 r200156_5 r200156_6 r200156_7 r200156_8 r200156_9 r200156_10 r200156_11 (by omega)
              · have f48 : x200159.toInt = 0 := i_eq (a := x200159.toInt) (b := 0) rfl rfl c200065
                have j_200079 : x200162.toInt ≠ p3.toInt → p4.toInt = 0 → w_X3_run_200079 p4 na2_items a1_count a1_ranges a1_sort a1_value a1_low a1_high a1_withinCase a1_rangeBegin a1_rangeEnd h10 h11 h12 h13 x100024 r5_0 r5_1 r5_2 r5_3 r5_4 r5_5 Q (w_X3_run_100051 p3 p4 na2_items a1_count a1_ranges a1_sort a1_value a1_low a1_high a1_withinCase a1_rangeBegin a1_rangeEnd h10 h11 h12 h13 Q x100024 r5_0 r5_1 r5_2 r5_3 r5_4 r5_5 n_100051) x200159 x200162 r200156_0 r200156_1 r200156_2 r100116_0 r200156_3 r100116_2 r200156_4 r200144_0 r200156_5 r200156_6 v_nextAt_100115 v_nextCells_100115 r200156_7 r200156_8 r200156_9 r200156_10 r200156_11 := by
                  intro f49 f50
                  unfold w_X3_run_200079
                  refine ok_J7_fill_53178  (fun r200084_0 => ?_)
                  intro g200094 eg200094
                  refine ok_X3_markEdges (by omega) (by omega) (by omega) (fun r200098_0 => ?_)
                  refine ok_X3_spread (by omega) (by omega) (fun r200112_0 r200112_1 r200112_2 r200112_3 r200112_4 r200112_5 r200112_6 r200112_7 r200112_8 f51 f52 f53 => ?_)
                  exact j_200115 r200112_0 r200112_1 r200098_0 r200112_2 r200112_3 r200112_4 r200112_5 r200112_6 r200112_7 r200112_8 (by omega)
                refine ⟨fun c200071 => ?_, fun c200071 => ?_⟩
                · have f54 : x200162.toInt = p3.toInt := i_eq (a := x200162.toInt) (b := p3.toInt) rfl rfl c200071
                  exfalso; omega
                · have f55 : x200162.toInt ≠ p3.toInt := i_ne (a := x200162.toInt) (b := p3.toInt) rfl rfl c200071
                  refine ⟨fun c200076 => ?_, fun c200076 => ?_⟩
                  · have f56 : p4.toInt ≠ 0 := i_ne (a := p4.toInt) (b := 0) rfl rfl c200076
                    exact j_200115 r200156_3 r200156_4 r200144_0 r200156_5 r200156_6 r200156_7 r200156_8 r200156_9 r200156_10 r200156_11 (by omega)
                  · have f57 : p4.toInt = 0 := i_eq (a := p4.toInt) (b := 0) rfl rfl c200076
                    exact j_200079  (by omega) (by omega)
          refine ⟨fun c200123 => ?_, fun c200123 => ?_⟩
          · have f58 : r100116_0.toInt ≠ 0 := i_ne (a := r100116_0.toInt) (b := 0) rfl rfl c200123
            exact j_200139  
          · have f59 : r100116_0.toInt = 0 := i_eq (a := r100116_0.toInt) (b := 0) rfl rfl c200123
            refine ⟨fun c200128 => ?_, fun c200128 => ?_⟩
            · have f60 : l6_100051.toInt ≠ 0 := i_ne (a := l6_100051.toInt) (b := 0) rfl rfl c200128
              exact j_200168 l6_100051 a2_count_100051 a2_over_100051 a2_items_100051 r100116_1 v_stackCount_100115 v_edges_100115 v_nowAt_100051 v_nowCells_100051 v_seen_100115 v_waits_100115 v_cells_100115 v_stack_100115 v_kept_100115 (by omega) (by omega) (by omega) (by omega) (by omega)
            · have f61 : l6_100051.toInt = 0 := i_eq (a := l6_100051.toInt) (b := 0) rfl rfl c200128
              refine ⟨fun c200133 => ?_, fun c200133 => ?_⟩
              · have f62 : p4.toInt = 0 := i_eq (a := p4.toInt) (b := 0) rfl rfl c200133
                exact j_200139  
              · have f63 : p4.toInt ≠ 0 := i_ne (a := p4.toInt) (b := 0) rfl rfl c200133
                exact j_200168 l6_100051 a2_count_100051 a2_over_100051 a2_items_100051 r100116_1 v_stackCount_100115 v_edges_100115 v_nowAt_100051 v_nowCells_100051 v_seen_100115 v_waits_100115 v_cells_100115 v_stack_100115 v_kept_100115 (by omega) (by omega) (by omega) (by omega) (by omega)
        refine ⟨fun c100065 => ?_, fun c100065 => ?_⟩
        · have f64 : l6_100051.toInt ≠ 0 := i_ne (a := l6_100051.toInt) (b := 0) rfl rfl c100065
          exact j_100115 v_nextCount_100051 v_stackCount_100051 v_edges_100051 v_nextAt_100051 v_nextCells_100051 v_seen_100051 v_waits_100051 v_cells_100051 v_stack_100051 v_kept_100051 (by omega) (by omega)
        · have f65 : l6_100051.toInt = 0 := i_eq (a := l6_100051.toInt) (b := 0) rfl rfl c100065
          have j_100079 : ((l7_100051.toInt = p3.toInt) ∨ (p4.toInt = 0)) → w_X3_run_100079 p3 p4 na2_items a1_count a1_ranges a1_sort a1_value a1_low a1_high a1_withinCase a1_rangeBegin a1_rangeEnd h10 h11 h12 h13 x100024 r5_0 r5_1 r5_2 r5_3 r5_4 r5_5 Q (w_X3_run_100051 p3 p4 na2_items a1_count a1_ranges a1_sort a1_value a1_low a1_high a1_withinCase a1_rangeBegin a1_rangeEnd h10 h11 h12 h13 Q x100024 r5_0 r5_1 r5_2 r5_3 r5_4 r5_5 n_100051) l6_100051 l7_100051 a2_count_100051 a2_over_100051 a2_items_100051 v_nowCount_100051 v_nextCount_100051 v_stamp_100051 v_stackCount_100051 v_edges_100051 v_nowAt_100051 v_nowCells_100051 v_nextAt_100051 v_nextCells_100051 v_seen_100051 v_waits_100051 v_cells_100051 v_stack_100051 v_kept_100051 := by
            intro f66
            unfold w_X3_run_100079
            refine ok_J7_fill_53178  (fun r100084_0 => ?_)
            intro g100094 eg100094
            refine ok_X3_markEdges (by omega) (by omega) (by omega) (fun r100098_0 => ?_)
            refine ok_X3_spread (by omega) (by omega) (fun r100112_0 r100112_1 r100112_2 r100112_3 r100112_4 r100112_5 r100112_6 r100112_7 r100112_8 f67 f68 f69 => ?_)
            exact j_100115 r100112_0 r100112_1 r100098_0 r100112_2 r100112_3 r100112_4 r100112_5 r100112_6 r100112_7 r100112_8 (by omega) (by omega)
          refine ⟨fun c100071 => ?_, fun c100071 => ?_⟩
          · have f70 : l7_100051.toInt = p3.toInt := i_eq (a := l7_100051.toInt) (b := p3.toInt) rfl rfl c100071
            exact j_100079  (by omega)
          · have f71 : l7_100051.toInt ≠ p3.toInt := i_ne (a := l7_100051.toInt) (b := p3.toInt) rfl rfl c100071
            refine ⟨fun c100076 => ?_, fun c100076 => ?_⟩
            · have f72 : p4.toInt ≠ 0 := i_ne (a := p4.toInt) (b := 0) rfl rfl c100076
              exact j_100115 v_nextCount_100051 v_stackCount_100051 v_edges_100051 v_nextAt_100051 v_nextCells_100051 v_seen_100051 v_waits_100051 v_cells_100051 v_stack_100051 v_kept_100051 (by omega) (by omega)
            · have f73 : p4.toInt = 0 := i_eq (a := p4.toInt) (b := 0) rfl rfl c100076
              exact j_100079  (by omega)
  exact ⟨((-1) * p3.toInt + 2147483648).toNat + 1, j_100051   (((-1) * p3.toInt + 2147483648).toNat + 1) 0 p3 a2_count a2_over a2_items v_nowCount 0 x100041 v_stackCount v_edges v_nowAt v_nowCells v_nextAt v_nextCells v_seen v_waits v_cells v_stack v_kept  (by omega) (by omega) (by omega) (by omega) (by omega) (by omega) (by omega)⟩
set_option maxHeartbeats 4000000 in
theorem ok_X11_place {v_faultPlace : Int32} {Q : Int32 → Prop} (hq : ∀ (r : Int32), r.toInt = v_faultPlace.toInt → Q r) : w_X11_place v_faultPlace Q := by
  have q_t : (bz true).toInt = 1 := rfl
  have q_f : (bz false).toInt = 0 := rfl
  unfold w_X11_place
  exact hq v_faultPlace (by omega)
set_option maxHeartbeats 4000000 in
theorem ok_X11_steps {v_latestSteps : Int32} {Q : Int32 → Prop} (hq : ∀ (r : Int32), r.toInt = v_latestSteps.toInt → Q r) : w_X11_steps v_latestSteps Q := by
  have q_t : (bz true).toInt = 1 := rfl
  have q_f : (bz false).toInt = 0 := rfl
  unfold w_X11_steps
  exact hq v_latestSteps (by omega)
set_option maxHeartbeats 4000000 in
theorem ok_X11_finding {v_latestFinding : Int32} {Q : Int32 → Prop} (hq : ∀ (r : Int32), r.toInt = v_latestFinding.toInt → Q r) : w_X11_finding v_latestFinding Q := by
  have q_t : (bz true).toInt = 1 := rfl
  have q_f : (bz false).toInt = 0 := rfl
  unfold w_X11_finding
  exact hq v_latestFinding (by omega)
set_option maxHeartbeats 4000000 in
theorem ok_X11_endSearch  {Q : Int32 → Int32 → Prop} (hq : ∀ (ov_openSlot : Int32) (ov_openSubject : Int32), ov_openSlot.toInt + 1 = 0 → ov_openSubject.toInt + 1 = 0 → Q ov_openSlot ov_openSubject) : w_X11_endSearch  Q := by
  have q_t : (bz true).toInt = 1 := rfl
  have q_f : (bz false).toInt = 0 := rfl
  have q_m1 : ((-1) : Int32).toInt = (-1) := rfl
  unfold w_X11_endSearch
  exact hq (-1) (-1) (by omega) (by omega)
set_option maxHeartbeats 4000000 in
theorem ok_X11_endSearchWithSlot {p1 : Int32} {v_openSlot : Int32} {v_openSubject : Int32} {Q : Int32 → Int32 → Prop} (hq : ∀ (ov_openSlot : Int32) (ov_openSubject : Int32), ((ov_openSlot.toInt + 1 = 0) ∨ (ov_openSlot.toInt = v_openSlot.toInt)) → ((ov_openSlot.toInt = v_openSlot.toInt ∧ ov_openSubject.toInt = v_openSubject.toInt) ∨ (v_openSlot.toInt = p1.toInt ∧ ov_openSlot.toInt + 1 = 0 ∧ ov_openSubject.toInt + 1 = 0)) → Q ov_openSlot ov_openSubject) : w_X11_endSearchWithSlot p1 v_openSlot v_openSubject Q := by
  have q_t : (bz true).toInt = 1 := rfl
  have q_f : (bz false).toInt = 0 := rfl
  unfold w_X11_endSearchWithSlot
  have j_12 : ∀ (v_openSlot_12 : Int32) (v_openSubject_12 : Int32), ((v_openSlot_12.toInt + 1 = 0) ∨ (v_openSlot_12.toInt = v_openSlot.toInt)) → ((v_openSlot_12.toInt = v_openSlot.toInt ∧ v_openSubject_12.toInt = v_openSubject.toInt) ∨ (v_openSlot.toInt = p1.toInt ∧ v_openSlot_12.toInt + 1 = 0 ∧ v_openSubject_12.toInt + 1 = 0)) → w_X11_endSearchWithSlot_12 Q v_openSlot_12 v_openSubject_12 := by
    intro v_openSlot_12 v_openSubject_12 f1 f2
    unfold w_X11_endSearchWithSlot_12
    exact hq v_openSlot_12 v_openSubject_12 (by omega) (by omega)
  refine ⟨fun c5 => ?_, fun c5 => ?_⟩
  · have f3 : v_openSlot.toInt ≠ p1.toInt := i_ne (a := v_openSlot.toInt) (b := p1.toInt) rfl rfl c5
    exact j_12 v_openSlot v_openSubject (by omega) (by omega)
  · have f4 : v_openSlot.toInt = p1.toInt := i_eq (a := v_openSlot.toInt) (b := p1.toInt) rfl rfl c5
    refine ok_X11_endSearch  (fun r9_0 r9_1 f5 f6 => ?_)
    exact j_12 r9_0 r9_1 (by omega) (by omega)
set_option maxHeartbeats 4000000 in
theorem ok_X11_endSearchOver {p1 : Int32} {v_openSlot : Int32} {v_openSubject : Int32} {Q : Int32 → Int32 → Prop} (hq : ∀ (ov_openSlot : Int32) (ov_openSubject : Int32), ((ov_openSlot.toInt + 1 = 0) ∨ (ov_openSlot.toInt = v_openSlot.toInt)) → ((ov_openSlot.toInt = v_openSlot.toInt ∧ ov_openSubject.toInt = v_openSubject.toInt) ∨ (v_openSubject.toInt = p1.toInt ∧ ov_openSlot.toInt + 1 = 0 ∧ ov_openSubject.toInt + 1 = 0)) → Q ov_openSlot ov_openSubject) : w_X11_endSearchOver p1 v_openSlot v_openSubject Q := by
  have q_t : (bz true).toInt = 1 := rfl
  have q_f : (bz false).toInt = 0 := rfl
  unfold w_X11_endSearchOver
  have j_12 : ∀ (v_openSlot_12 : Int32) (v_openSubject_12 : Int32), ((v_openSlot_12.toInt + 1 = 0) ∨ (v_openSlot_12.toInt = v_openSlot.toInt)) → ((v_openSlot_12.toInt = v_openSlot.toInt ∧ v_openSubject_12.toInt = v_openSubject.toInt) ∨ (v_openSubject.toInt = p1.toInt ∧ v_openSlot_12.toInt + 1 = 0 ∧ v_openSubject_12.toInt + 1 = 0)) → w_X11_endSearchOver_12 Q v_openSlot_12 v_openSubject_12 := by
    intro v_openSlot_12 v_openSubject_12 f1 f2
    unfold w_X11_endSearchOver_12
    exact hq v_openSlot_12 v_openSubject_12 (by omega) (by omega)
  refine ⟨fun c5 => ?_, fun c5 => ?_⟩
  · have f3 : v_openSubject.toInt ≠ p1.toInt := i_ne (a := v_openSubject.toInt) (b := p1.toInt) rfl rfl c5
    exact j_12 v_openSlot v_openSubject (by omega) (by omega)
  · have f4 : v_openSubject.toInt = p1.toInt := i_eq (a := v_openSubject.toInt) (b := p1.toInt) rfl rfl c5
    refine ok_X11_endSearch  (fun r9_0 r9_1 f5 f6 => ?_)
    exact j_12 r9_0 r9_1 (by omega) (by omega)
set_option maxHeartbeats 4000000 in
theorem ok_X11_isSlot {p0 : Int32} {Q : Int32 → Prop} (hq : ∀ (r : Int32), ((r.toInt = 1 ∧ 0 ≤ p0.toInt ∧ p0.toInt ≤ 5) ∨ (r.toInt = 0)) → Q r) : w_X11_isSlot p0 Q := by
  have q_t : (bz true).toInt = 1 := rfl
  have q_f : (bz false).toInt = 0 := rfl
  have q_0 : (0 : Int32).toInt = 0 := rfl
  have q_1 : (1 : Int32).toInt = 1 := rfl
  unfold w_X11_isSlot
  have j_15 : ∀ (s0_15 : Int32), ((s0_15.toInt = 1 ∧ 0 ≤ p0.toInt ∧ p0.toInt ≤ 5) ∨ (s0_15.toInt = 0)) → w_X11_isSlot_15 Q s0_15 := by
    intro s0_15 f1
    unfold w_X11_isSlot_15
    refine ⟨i_01 (by omega) (by omega), ?_⟩
    exact hq s0_15 (by omega)
  have j_14 : ((p0.toInt + 1 ≤ 0) ∨ (0 ≤ p0.toInt ∧ 6 ≤ p0.toInt)) → w_X11_isSlot_14 Q := by
    intro f2
    unfold w_X11_isSlot_14
    exact j_15 0 (by omega)
  refine ⟨fun c1 => ?_, fun c1 => ?_⟩
  · have f3 : p0.toInt < 0 := i_lt (a := p0.toInt) (b := 0) rfl rfl c1
    exact j_14  (by omega)
  · have f4 : 0 ≤ p0.toInt := i_nlt (a := p0.toInt) (b := 0) rfl rfl c1
    refine ⟨fun c7 => ?_, fun c7 => ?_⟩
    · have f5 : 6 ≤ p0.toInt := i_le (a := 6) (b := p0.toInt) rfl rfl c7
      exact j_14  (by omega)
    · have f6 : p0.toInt < 6 := i_nle (a := 6) (b := p0.toInt) rfl rfl c7
      exact j_15 1 (by omega)
set_option maxHeartbeats 4000000 in
theorem ok_X11_isSubject {p0 : Int32} {Q : Int32 → Prop} (hq : ∀ (r : Int32), 0 ≤ r.toInt → r.toInt ≤ 1 → ((r.toInt = 0) ∨ (0 ≤ p0.toInt)) → ((r.toInt = 0) ∨ (p0.toInt ≤ 3)) → ((r.toInt = 1) ∨ (p0.toInt + 1 ≤ 0) ∨ (4 ≤ p0.toInt)) → ((r.toInt = 1 ∧ 0 ≤ p0.toInt ∧ p0.toInt ≤ 3) ∨ (r.toInt = 0)) → Q r) : w_X11_isSubject p0 Q := by
  have q_t : (bz true).toInt = 1 := rfl
  have q_f : (bz false).toInt = 0 := rfl
  have q_0 : (0 : Int32).toInt = 0 := rfl
  have q_1 : (1 : Int32).toInt = 1 := rfl
  unfold w_X11_isSubject
  have j_14 : ∀ (s0_14 : Int32), 0 ≤ s0_14.toInt → s0_14.toInt ≤ 1 → ((s0_14.toInt = 0) ∨ (0 ≤ p0.toInt)) → ((s0_14.toInt = 0) ∨ (p0.toInt ≤ 3)) → ((s0_14.toInt = 1) ∨ (p0.toInt + 1 ≤ 0) ∨ (4 ≤ p0.toInt)) → ((s0_14.toInt = 1 ∧ 0 ≤ p0.toInt ∧ p0.toInt ≤ 3) ∨ (s0_14.toInt = 0)) → w_X11_isSubject_14 Q s0_14 := by
    intro s0_14 f1 f2 f3 f4 f5 f6
    unfold w_X11_isSubject_14
    refine ⟨i_01 (by omega) (by omega), ?_⟩
    exact hq s0_14 (by omega) (by omega) (by omega) (by omega) (by omega) (by omega)
  have j_13 : ((p0.toInt + 1 ≤ 0) ∨ (0 ≤ p0.toInt ∧ 4 ≤ p0.toInt)) → w_X11_isSubject_13 Q := by
    intro f7
    unfold w_X11_isSubject_13
    exact j_14 0 (by omega) (by omega) (by omega) (by omega) (by omega) (by omega)
  refine ⟨fun c1 => ?_, fun c1 => ?_⟩
  · have f8 : p0.toInt < 0 := i_lt (a := p0.toInt) (b := 0) rfl rfl c1
    exact j_13  (by omega)
  · have f9 : 0 ≤ p0.toInt := i_nlt (a := p0.toInt) (b := 0) rfl rfl c1
    refine ⟨fun c6 => ?_, fun c6 => ?_⟩
    · have f10 : 4 ≤ p0.toInt := i_le (a := 4) (b := p0.toInt) rfl rfl c6
      exact j_13  (by omega)
    · have f11 : p0.toInt < 4 := i_nle (a := 4) (b := p0.toInt) rfl rfl c6
      exact j_14 1 (by omega) (by omega) (by omega) (by omega) (by omega) (by omega)
set_option maxHeartbeats 4000000 in
theorem ok_X11_isMachine {p0 : Int32} {Q : Int32 → Prop} (hq : ∀ (r : Int32), ((r.toInt = 1 ∧ 0 ≤ p0.toInt ∧ p0.toInt ≤ 2) ∨ (r.toInt = 0)) → Q r) : w_X11_isMachine p0 Q := by
  have q_t : (bz true).toInt = 1 := rfl
  have q_f : (bz false).toInt = 0 := rfl
  have q_0 : (0 : Int32).toInt = 0 := rfl
  have q_1 : (1 : Int32).toInt = 1 := rfl
  unfold w_X11_isMachine
  have j_14 : ∀ (s0_14 : Int32), ((s0_14.toInt = 1 ∧ 0 ≤ p0.toInt ∧ p0.toInt ≤ 2) ∨ (s0_14.toInt = 0)) → w_X11_isMachine_14 Q s0_14 := by
    intro s0_14 f1
    unfold w_X11_isMachine_14
    refine ⟨i_01 (by omega) (by omega), ?_⟩
    exact hq s0_14 (by omega)
  have j_13 : ((p0.toInt + 1 ≤ 0) ∨ (0 ≤ p0.toInt ∧ 3 ≤ p0.toInt)) → w_X11_isMachine_13 Q := by
    intro f2
    unfold w_X11_isMachine_13
    exact j_14 0 (by omega)
  refine ⟨fun c1 => ?_, fun c1 => ?_⟩
  · have f3 : p0.toInt < 0 := i_lt (a := p0.toInt) (b := 0) rfl rfl c1
    exact j_13  (by omega)
  · have f4 : 0 ≤ p0.toInt := i_nlt (a := p0.toInt) (b := 0) rfl rfl c1
    refine ⟨fun c6 => ?_, fun c6 => ?_⟩
    · have f5 : 2 < p0.toInt := i_lt (a := 2) (b := p0.toInt) rfl rfl c6
      exact j_13  (by omega)
    · have f6 : p0.toInt ≤ 2 := i_nlt (a := 2) (b := p0.toInt) rfl rfl c6
      exact j_14 1 (by omega)
set_option maxHeartbeats 4000000 in
theorem ok_X11_byteOf {p0 : Int64} {p1 : Int32} {Q : Int32 → Prop} (hq : ∀ (r : Int32), 0 ≤ r.toInt → r.toInt ≤ 255 → Q r) : w_X11_byteOf p0 p1 Q := by
  have q_t : (bz true).toInt = 1 := rfl
  have q_f : (bz false).toInt = 0 := rfl
  unfold w_X11_byteOf
  intro x4 ex4
  intro y5 ey5
  intro x6 ex6
  intro x10 ex10
  have f1 : (0 ≤ x10.toInt ∧ x10.toInt ≤ 255) := i_andr ex10 (by decide)
  exact hq x10 (by omega) (by omega)
set_option maxHeartbeats 4000000 in
theorem ok_X11_tellRow {p1 : Int32} {v_outRow_items : Nat → Int32} {nv_outRow_items : Nat} {v_draft_count : Int32} {v_draft_items : Nat → Int32} {nv_draft_items : Nat} {Q : Bool → Int32 → Bool → (Nat → Int32) → Prop} (a0 : (nv_outRow_items : Int) ≤ 1000) (a1 : 0 ≤ v_draft_count.toInt) (a2 : v_draft_count.toInt ≤ (nv_draft_items : Int)) (a3 : (nv_draft_items : Int) ≤ 1000) (a4 : 0 ≤ p1.toInt) (a5 : p1.toInt ≤ 1) (hq : ∀ (ov_outHasNumbers : Bool) (ov_outRow_count : Int32) (ov_outRow_over : Bool) (ov_outRow_items : Nat → Int32), 0 ≤ ov_outRow_count.toInt + 1 → 0 ≤ ov_outRow_count.toInt → ov_outRow_count.toInt ≤ 1000 → ov_outRow_count.toInt ≤ (nv_outRow_items : Int) → (bz ov_outHasNumbers).toInt = p1.toInt → Q ov_outHasNumbers ov_outRow_count ov_outRow_over ov_outRow_items) : w_X11_tellRow p1 v_outRow_items nv_outRow_items v_draft_count v_draft_items nv_draft_items Q := by
  have q_t : (bz true).toInt = 1 := rfl
  have q_f : (bz false).toInt = 0 := rfl
  unfold w_X11_tellRow
  refine ok_X7_take (by omega) (by omega) (by omega) (by omega) (fun r8_0 r8_1 r8_2 f1 f2 f3 f4 => ?_)
  refine ⟨i_01 (by omega) (by omega), ?_⟩
  intro b13 eb13
  have f5 : (bz b13).toInt = p1.toInt := by rw [← eb13]
  exact hq b13 r8_0 r8_1 r8_2 (by omega) (by omega) (by omega) (by omega) (by omega)
set_option maxHeartbeats 4000000 in
theorem ok_X11_isStepCount {p0 : Int32} {Q : Int32 → Prop} (hq : ∀ (r : Int32), ((r.toInt = 1 ∧ 1 ≤ p0.toInt ∧ p0.toInt ≤ 3000) ∨ (r.toInt = 0)) → Q r) : w_X11_isStepCount p0 Q := by
  have q_t : (bz true).toInt = 1 := rfl
  have q_f : (bz false).toInt = 0 := rfl
  have q_0 : (0 : Int32).toInt = 0 := rfl
  have q_1 : (1 : Int32).toInt = 1 := rfl
  unfold w_X11_isStepCount
  have j_17 : ∀ (s0_17 : Int32), ((s0_17.toInt = 1 ∧ 1 ≤ p0.toInt ∧ p0.toInt ≤ 3000) ∨ (s0_17.toInt = 0)) → w_X11_isStepCount_17 Q s0_17 := by
    intro s0_17 f1
    unfold w_X11_isStepCount_17
    refine ⟨i_01 (by omega) (by omega), ?_⟩
    exact hq s0_17 (by omega)
  have j_16 : ((p0.toInt ≤ 0) ∨ (1 ≤ p0.toInt ∧ 3001 ≤ p0.toInt)) → w_X11_isStepCount_16 Q := by
    intro f2
    unfold w_X11_isStepCount_16
    exact j_17 0 (by omega)
  refine ⟨fun c2 => ?_, fun c2 => ?_⟩
  · have f3 : p0.toInt < 1 := i_lt (a := p0.toInt) (b := 1) rfl rfl c2
    exact j_16  (by omega)
  · have f4 : 1 ≤ p0.toInt := i_nlt (a := p0.toInt) (b := 1) rfl rfl c2
    refine ⟨fun c9 => ?_, fun c9 => ?_⟩
    · have f5 : 3000 < p0.toInt := i_lt (a := 3000) (b := p0.toInt) rfl rfl c9
      exact j_16  (by omega)
    · have f6 : p0.toInt ≤ 3000 := i_nlt (a := 3000) (b := p0.toInt) rfl rfl c9
      exact j_17 1 (by omega)
set_option maxHeartbeats 4000000 in
theorem ok_X11_refusalOfSubject {p1 : Int32} {v_latestFinding : Int32} {Q : Int32 → Int32 → Prop} (hq : ∀ (r : Int32) (ov_latestFinding : Int32), ((r.toInt + 3 = 0 ∧ ov_latestFinding.toInt = 2) ∨ (r.toInt + 2 = 0 ∧ ov_latestFinding.toInt = v_latestFinding.toInt)) → ((r.toInt + 2 ≠ 0) ∨ (p1.toInt + 1 ≤ 0) ∨ (4 ≤ p1.toInt)) → ((r.toInt + 3 ≠ 0) ∨ (0 ≤ p1.toInt)) → ((r.toInt + 3 ≠ 0) ∨ (p1.toInt ≤ 3)) → Q r ov_latestFinding) : w_X11_refusalOfSubject p1 v_latestFinding Q := by
  have q_t : (bz true).toInt = 1 := rfl
  have q_f : (bz false).toInt = 0 := rfl
  have q_m3 : ((-3) : Int32).toInt = (-3) := rfl
  have q_m2 : ((-2) : Int32).toInt = (-2) := rfl
  have q_2 : (2 : Int32).toInt = 2 := rfl
  unfold w_X11_refusalOfSubject
  refine ok_X11_isSubject  (fun r1 f1 f2 f3 f4 f5 f6 => ?_)
  refine ⟨fun c4 => ?_, fun c4 => ?_⟩
  · have f7 : r1.toInt ≠ 0 := i_ne (a := r1.toInt) (b := 0) rfl rfl c4
    exact hq (-3) 2 (by omega) (by omega) (by omega) (by omega)
  · have f8 : r1.toInt = 0 := i_eq (a := r1.toInt) (b := 0) rfl rfl c4
    exact hq (-2) v_latestFinding (by omega) (by omega) (by omega) (by omega)
set_option maxHeartbeats 4000000 in
theorem ok_X11_isTold {p0 : Int32} {p1 : Int32} {Q : Int32 → Prop} (hq : ∀ (r : Int32), 0 ≤ r.toInt → r.toInt ≤ 1 → Q r) : w_X11_isTold p0 p1 Q := by
  have q_t : (bz true).toInt = 1 := rfl
  have q_f : (bz false).toInt = 0 := rfl
  have q_0 : (0 : Int32).toInt = 0 := rfl
  have q_1 : (1 : Int32).toInt = 1 := rfl
  unfold w_X11_isTold
  intro x2 ex2
  intro x4 ex4
  have f1 : (0 ≤ x4.toInt ∧ x4.toInt ≤ 1) := i_andr ex4 (by decide)
  have j_14 : ∀ (s0_14 : Int32), ((s0_14.toInt = 0) ∨ (s0_14.toInt = 1 ∧ x4.toInt = 1)) → w_X11_isTold_14 Q s0_14 := by
    intro s0_14 f2
    unfold w_X11_isTold_14
    refine ⟨i_01 (by omega) (by omega), ?_⟩
    exact hq s0_14 (by omega) (by omega)
  refine ⟨fun c6 => ?_, fun c6 => ?_⟩
  · have f3 : x4.toInt ≠ 1 := i_ne (a := x4.toInt) (b := 1) rfl rfl c6
    exact j_14 0 (by omega)
  · have f4 : x4.toInt = 1 := i_eq (a := x4.toInt) (b := 1) rfl rfl c6
    exact j_14 1 (by omega)
set_option maxHeartbeats 4000000 in
theorem ok_X11_refusalByMachine {p1 : Int32} {a0_count : Int32} {a0_sort : Nat → Int32} {a0_end : Nat → Int32} {a0_value : Nat → Int32} {a0_low : Nat → Int32} {a0_high : Nat → Int32} {a0_size : Nat → Int32} {a0_positions : Nat → Int32} {a0_mayBeEmpty : Nat → Bool} {Q : Int32 → Prop} (a0 : 0 ≤ a0_count.toInt) (a1 : a0_count.toInt ≤ 256) (b0 : rp (fun k v => k < v ∧ v ≤ 256) a0_end 0 a0_count.toInt) (hq : ∀ (r : Int32), 0 ≤ r.toInt + 7 → r.toInt ≤ 0 → Q r) : w_X11_refusalByMachine p1 a0_count a0_sort a0_end a0_value a0_low a0_high a0_size a0_positions a0_mayBeEmpty Q := by
  have q_t : (bz true).toInt = 1 := rfl
  have q_f : (bz false).toInt = 0 := rfl
  have q_m7 : ((-7) : Int32).toInt = (-7) := rfl
  have q_m6 : ((-6) : Int32).toInt = (-6) := rfl
  have q_0 : (0 : Int32).toInt = 0 := rfl
  unfold w_X11_refusalByMachine
  refine ok_X10_isTakenBy (by omega) (by omega) (rp_mono b0 (by omega) (by omega)) (fun r2 f1 => ?_)
  refine ⟨fun c5 => ?_, fun c5 => ?_⟩
  · have f2 : r2.toInt ≠ 0 := i_ne (a := r2.toInt) (b := 0) rfl rfl c5
    refine ok_X10_isTooLargeFor (by omega) (by omega) (fun r13 f3 f4 f5 => ?_)
    have j_25 : ∀ (s0_25 : Int32), ((s0_25.toInt = 0 ∧ r13.toInt = 0) ∨ (s0_25.toInt + 7 = 0)) → w_X11_refusalByMachine_25 Q s0_25 := by
      intro s0_25 f6
      unfold w_X11_refusalByMachine_25
      exact hq s0_25 (by omega) (by omega)
    refine ⟨fun c16 => ?_, fun c16 => ?_⟩
    · have f7 : r13.toInt = 0 := i_eq (a := r13.toInt) (b := 0) rfl rfl c16
      exact j_25 0 (by omega)
    · have f8 : r13.toInt ≠ 0 := i_ne (a := r13.toInt) (b := 0) rfl rfl c16
      exact j_25 (-7) (by omega)
  · have f9 : r2.toInt = 0 := i_eq (a := r2.toInt) (b := 0) rfl rfl c5
    exact hq (-6) (by omega) (by omega)
set_option maxHeartbeats 4000000 in
theorem ok_X11_capturesOfFound {v_found_count : Int32} {Q : Int32 → Prop} (a0 : 0 ≤ v_found_count.toInt) (hq : ∀ (r : Int32), ((0 ≤ r.toInt + 1 ∧ 2 * r.toInt + 2 ≤ v_found_count.toInt ∧ v_found_count.toInt ≤ 2 * r.toInt + 3) ∨ (r.toInt = 0 ∧ v_found_count.toInt = 0)) → Q r) : w_X11_capturesOfFound v_found_count Q := by
  have q_t : (bz true).toInt = 1 := rfl
  have q_f : (bz false).toInt = 0 := rfl
  have q_0 : (0 : Int32).toInt = 0 := rfl
  unfold w_X11_capturesOfFound
  have j_25 : ∀ (s0_25 : Int32), ((0 ≤ s0_25.toInt + 1 ∧ 2 * s0_25.toInt + 2 ≤ v_found_count.toInt ∧ v_found_count.toInt ≤ 2 * s0_25.toInt + 3) ∨ (s0_25.toInt = 0 ∧ v_found_count.toInt = 0)) → w_X11_capturesOfFound_25 Q s0_25 := by
    intro s0_25 f1
    unfold w_X11_capturesOfFound_25
    exact hq s0_25 (by omega)
  refine ⟨fun c7 => ?_, fun c7 => ?_⟩
  · have f2 : v_found_count.toInt ≠ 0 := i_ne (a := v_found_count.toInt) (b := 0) rfl rfl c7
    intro x22 ex22
    have f3 : (0 ≤ x22.toInt ∧ 2 * x22.toInt ≤ v_found_count.toInt ∧ v_found_count.toInt ≤ 2 * x22.toInt + 1) := by have h9 := i_div (b := 2) ex22 rfl (by decide) (by omega); omega
    intro x24 ex24
    have f4 : x24.toInt = x22.toInt - 1 := i_sub (a := x22.toInt) (b := 1) ex24 rfl rfl (by omega) (by have h8_0 := i_rng v_found_count; have h8_1 := i_rng x22; omega)
    exact j_25 x24 (by omega)
  · have f5 : v_found_count.toInt = 0 := i_eq (a := v_found_count.toInt) (b := 0) rfl rfl c7
    exact j_25 0 (by omega)
set_option maxHeartbeats 4000000 in
theorem ok_X11_patternIn {p1 : Int32} {v_latestFinding : Int32} {v_patterns : Nat → Option Nat} {v_patterns_p1_there : Bool} {h2 : Nat} {Q : Int32 → Int32 → Prop} (v0 : 0 ≤ p1.toInt → p1.toInt < 6 → v_patterns p1.toNatClampNeg = some h2) (hq : ∀ (r : Int32) (ov_latestFinding : Int32), 0 ≤ r.toInt → r.toInt ≤ 1 → Q r ov_latestFinding) : w_X11_patternIn p1 v_latestFinding v_patterns v_patterns_p1_there h2 Q := by
  have q_t : (bz true).toInt = 1 := rfl
  have q_f : (bz false).toInt = 0 := rfl
  have q_0 : (0 : Int32).toInt = 0 := rfl
  have q_1 : (1 : Int32).toInt = 1 := rfl
  have q_2 : (2 : Int32).toInt = 2 := rfl
  unfold w_X11_patternIn
  refine ok_X11_isSlot  (fun r1 f501 => ?_)
  refine ⟨fun c4 => ?_, fun c4 => ?_⟩
  · have f502 : r1.toInt ≠ 0 := i_ne (a := r1.toInt) (b := 0) rfl rfl c4
    refine ⟨i_in (by omega) (by omega), ?_⟩
    refine ⟨v0 (by omega) (by omega), ?_⟩
    have f503 : (0 ≤ (bz v_patterns_p1_there).toInt ∧ (bz v_patterns_p1_there).toInt ≤ 1) := i_bzr v_patterns_p1_there
    refine ⟨fun c18 => ?_, fun c18 => ?_⟩
    · have f504 : (bz v_patterns_p1_there).toInt ≠ 0 := i_ne (a := (bz v_patterns_p1_there).toInt) (b := 0) rfl rfl c18
      refine ⟨i_in (by omega) (by omega), ?_⟩
      refine ⟨v0 (by omega) (by omega), ?_⟩
      exact hq 1 v_latestFinding (by omega) (by omega)
    · have f505 : (bz v_patterns_p1_there).toInt = 0 := i_eq (a := (bz v_patterns_p1_there).toInt) (b := 0) rfl rfl c18
      exact hq 0 2 (by omega) (by omega)
  · have f506 : r1.toInt = 0 := i_eq (a := r1.toInt) (b := 0) rfl rfl c4
    exact hq 0 v_latestFinding (by omega) (by omega)
set_option maxHeartbeats 4000000 in
theorem ok_X11_forget {p1 : Int32} {v_latestFinding : Int32} {v_openSlot : Int32} {v_openSubject : Int32} {v_patterns : Nat → Option Nat} {v_patterns_p1_there : Bool} {h2 : Nat} {Q : Int32 → Int32 → Int32 → Int32 → Bool → Prop} (v0 : 0 ≤ p1.toInt → p1.toInt < 6 → v_patterns p1.toNatClampNeg = some h2) (hq : ∀ (r : Int32) (ov_latestFinding : Int32) (ov_openSlot : Int32) (ov_openSubject : Int32) (ov_patterns_p1_there : Bool), ((r.toInt + 2 = 0 ∧ ov_openSlot.toInt = v_openSlot.toInt ∧ ov_openSubject.toInt = v_openSubject.toInt ∧ (bz ov_patterns_p1_there).toInt = (bz v_patterns_p1_there).toInt) ∨ (r.toInt = 1 ∧ (bz ov_patterns_p1_there).toInt = 0)) → ((ov_openSlot.toInt + 1 = 0) ∨ (ov_openSlot.toInt = v_openSlot.toInt)) → Q r ov_latestFinding ov_openSlot ov_openSubject ov_patterns_p1_there) : w_X11_forget p1 v_latestFinding v_openSlot v_openSubject v_patterns v_patterns_p1_there h2 Q := by
  have q_t : (bz true).toInt = 1 := rfl
  have q_f : (bz false).toInt = 0 := rfl
  have q_m2 : ((-2) : Int32).toInt = (-2) := rfl
  have q_1 : (1 : Int32).toInt = 1 := rfl
  unfold w_X11_forget
  refine ok_X11_patternIn v0 (fun r2 r2_0 f1 f2 => ?_)
  refine ⟨fun c2 => ?_, fun c2 => ?_⟩
  · have f3 : r2.toInt = 0 := i_eq (a := r2.toInt) (b := 0) rfl rfl c2
    exact hq (-2) r2_0 v_openSlot v_openSubject v_patterns_p1_there (by omega) (by omega)
  · have f4 : r2.toInt ≠ 0 := i_ne (a := r2.toInt) (b := 0) rfl rfl c2
    refine ok_X11_endSearchWithSlot  (fun r200020_0 r200020_1 f5 f6 => ?_)
    exact hq 1 r2_0 r200020_0 r200020_1 false (by omega) (by omega)
set_option maxHeartbeats 4000000 in
theorem ok_X11_dead {p1 : Int32} {p2 : Int32} {v_latestFinding : Int32} {v_patterns : Nat → Option Nat} {v_patterns_p1_there : Bool} {v_patterns_p1_count : Int32} {v_patterns_p1_ranges : Int32} {v_patterns_p1_sort : Nat → Int32} {v_patterns_p1_holder : Nat → Int32} {v_patterns_p1_end : Nat → Int32} {v_patterns_p1_before : Nat → Int32} {v_patterns_p1_parts : Nat → Int32} {v_patterns_p1_value : Nat → Int32} {v_patterns_p1_low : Nat → Int32} {v_patterns_p1_high : Nat → Int32} {v_patterns_p1_rangeBegin : Nat → Int32} {v_patterns_p1_rangeEnd : Nat → Int32} {h2 : Nat} {Q : Int32 → Int32 → Prop} (a0 : 0 ≤ v_patterns_p1_count.toInt) (a1 : v_patterns_p1_count.toInt ≤ 256) (a2 : 0 ≤ v_patterns_p1_ranges.toInt) (a3 : v_patterns_p1_ranges.toInt ≤ 512) (b0 : rp (fun k v => k < v ∧ v ≤ 256) v_patterns_p1_end 0 v_patterns_p1_count.toInt) (b1 : rp (fun k v => v < k ∧ -1 ≤ v) v_patterns_p1_holder 0 v_patterns_p1_count.toInt) (b2 : rp (fun k v => v < k ∧ -1 ≤ v) v_patterns_p1_before 0 v_patterns_p1_count.toInt) (v0 : 0 ≤ p1.toInt → p1.toInt < 6 → v_patterns p1.toNatClampNeg = some h2) (hq : ∀ (r : Int32) (ov_latestFinding : Int32), 0 ≤ r.toInt + 4 → r.toInt ≤ 255 → Q r ov_latestFinding) : w_X11_dead p1 p2 v_latestFinding v_patterns v_patterns_p1_there v_patterns_p1_count v_patterns_p1_ranges v_patterns_p1_sort v_patterns_p1_holder v_patterns_p1_end v_patterns_p1_before v_patterns_p1_parts v_patterns_p1_value v_patterns_p1_low v_patterns_p1_high v_patterns_p1_rangeBegin v_patterns_p1_rangeEnd h2 Q := by
  have q_t : (bz true).toInt = 1 := rfl
  have q_f : (bz false).toInt = 0 := rfl
  have q_m4 : ((-4) : Int32).toInt = (-4) := rfl
  have q_m2 : ((-2) : Int32).toInt = (-2) := rfl
  unfold w_X11_dead
  refine ok_X11_patternIn v0 (fun r2 r2_0 f1 f2 => ?_)
  refine ⟨fun c2 => ?_, fun c2 => ?_⟩
  · have f3 : r2.toInt = 0 := i_eq (a := r2.toInt) (b := 0) rfl rfl c2
    exact hq (-2) r2_0 (by omega) (by omega)
  · have f4 : r2.toInt ≠ 0 := i_ne (a := r2.toInt) (b := 0) rfl rfl c2
    have j_200027 : ∀ (s0_200027 : Int32), ((0 ≤ p2.toInt ∧ 0 ≤ s0_200027.toInt + 1 ∧ s0_200027.toInt ≤ 255) ∨ (s0_200027.toInt + 4 = 0 ∧ p2.toInt + 1 ≤ 0)) → w_X11_dead_200027 Q s0_200027 r2_0 := by
      intro s0_200027 f5
      unfold w_X11_dead_200027
      exact hq s0_200027 r2_0 (by omega) (by omega)
    refine ⟨fun c200014 => ?_, fun c200014 => ?_⟩
    · have f6 : 0 ≤ p2.toInt := i_le (a := 0) (b := p2.toInt) rfl rfl c200014
      refine ok_X10_deadRow (by omega) (by omega) (by omega) (by omega) (rp_mono b0 (by omega) (by omega)) (rp_mono b1 (by omega) (by omega)) (rp_mono b2 (by omega) (by omega)) (fun r200024 f7 f8 => ?_)
      exact j_200027 r200024 (by omega)
    · have f9 : p2.toInt < 0 := i_nle (a := 0) (b := p2.toInt) rfl rfl c200014
      exact j_200027 (-4) (by omega)
set_option maxHeartbeats 4000000 in
theorem ok_X11_sortThatTells {p0 : Int32} {Q : Int32 → Prop} (hq : ∀ (r : Int32), 0 ≤ r.toInt → r.toInt ≤ 9 → Q r) : w_X11_sortThatTells p0 Q := by
  have q_t : (bz true).toInt = 1 := rfl
  have q_f : (bz false).toInt = 0 := rfl
  have q_0 : (0 : Int32).toInt = 0 := rfl
  have q_2 : (2 : Int32).toInt = 2 := rfl
  have q_3 : (3 : Int32).toInt = 3 := rfl
  have q_4 : (4 : Int32).toInt = 4 := rfl
  have q_7 : (7 : Int32).toInt = 7 := rfl
  have q_8 : (8 : Int32).toInt = 8 := rfl
  have q_9 : (9 : Int32).toInt = 9 := rfl
  unfold w_X11_sortThatTells
  refine ⟨fun c1_0 => ?_, fun c1_1 => ?_, fun c1_2 => ?_, fun c1_3 => ?_, fun c1_4 => ?_, fun c1_5 => ?_, ?_⟩
  · have f1 : p0.toInt = 10 := i_eq (a := p0.toInt) (b := 10) rfl rfl c1_0
    exact hq 0 (by omega) (by omega)
  · have f2 : p0.toInt = 11 := i_eq (a := p0.toInt) (b := 11) rfl rfl c1_1
    exact hq 2 (by omega) (by omega)
  · have f3 : p0.toInt = 12 := i_eq (a := p0.toInt) (b := 12) rfl rfl c1_2
    exact hq 3 (by omega) (by omega)
  · have f4 : p0.toInt = 13 := i_eq (a := p0.toInt) (b := 13) rfl rfl c1_3
    exact hq 4 (by omega) (by omega)
  · have f5 : p0.toInt = 14 := i_eq (a := p0.toInt) (b := 14) rfl rfl c1_4
    exact hq 8 (by omega) (by omega)
  · have f6 : p0.toInt = 15 := i_eq (a := p0.toInt) (b := 15) rfl rfl c1_5
    exact hq 9 (by omega) (by omega)
  · intro c1_0 c1_1 c1_2 c1_3 c1_4 c1_5
    have f7 : p0.toInt ≠ 10 := i_ne (a := p0.toInt) (b := 10) rfl rfl c1_0
    have f8 : p0.toInt ≠ 11 := i_ne (a := p0.toInt) (b := 11) rfl rfl c1_1
    have f9 : p0.toInt ≠ 12 := i_ne (a := p0.toInt) (b := 12) rfl rfl c1_2
    have f10 : p0.toInt ≠ 13 := i_ne (a := p0.toInt) (b := 13) rfl rfl c1_3
    have f11 : p0.toInt ≠ 14 := i_ne (a := p0.toInt) (b := 14) rfl rfl c1_4
    have f12 : p0.toInt ≠ 15 := i_ne (a := p0.toInt) (b := 15) rfl rfl c1_5
    exact hq 7 (by omega) (by omega)
set_option maxHeartbeats 4000000 in
theorem ok_X11_subjectAt {p1 : Int32} {v_subjects : Nat → Option Nat} {v_subjects_p1_there : Bool} {h2 : Nat} {Q : Int32 → Prop} (v0 : 0 ≤ p1.toInt → p1.toInt < 4 → v_subjects p1.toNatClampNeg = some h2) (hq : ∀ (r : Int32), 0 ≤ r.toInt → r.toInt ≤ 1 → ((r.toInt = 0) ∨ (0 ≤ p1.toInt)) → ((r.toInt = 0) ∨ (p1.toInt ≤ 3)) → ((r.toInt = 0) ∨ ((bz v_subjects_p1_there).toInt = 1)) → ((r.toInt = 1) ∨ (p1.toInt + 1 ≤ 0) ∨ (4 ≤ p1.toInt) ∨ ((bz v_subjects_p1_there).toInt = 0)) → ((r.toInt = 1) ∨ (r.toInt = 0)) → Q r) : w_X11_subjectAt p1 v_subjects v_subjects_p1_there h2 Q := by
  have q_t : (bz true).toInt = 1 := rfl
  have q_f : (bz false).toInt = 0 := rfl
  have q_0 : (0 : Int32).toInt = 0 := rfl
  have q_1 : (1 : Int32).toInt = 1 := rfl
  unfold w_X11_subjectAt
  refine ok_X11_isSubject  (fun r1 f1 f2 f3 f4 f5 f6 => ?_)
  have j_29 : ∀ (s0_29 : Int32), 0 ≤ s0_29.toInt → s0_29.toInt ≤ 1 → ((s0_29.toInt = 0) ∨ (0 ≤ p1.toInt)) → ((s0_29.toInt = 0) ∨ (p1.toInt ≤ 3)) → ((s0_29.toInt = 0) ∨ ((bz v_subjects_p1_there).toInt = 1)) → ((s0_29.toInt = 1) ∨ (p1.toInt + 1 ≤ 0) ∨ (4 ≤ p1.toInt) ∨ ((bz v_subjects_p1_there).toInt = 0)) → ((s0_29.toInt = 1) ∨ (s0_29.toInt = 0)) → w_X11_subjectAt_29 Q s0_29 := by
    intro s0_29 f7 f8 f9 f10 f11 f12 f13
    unfold w_X11_subjectAt_29
    exact hq s0_29 (by omega) (by omega) (by omega) (by omega) (by omega) (by omega) (by omega)
  have j_28 : ((p1.toInt + 1 ≤ 0) ∨ (4 ≤ p1.toInt) ∨ ((bz v_subjects_p1_there).toInt = 0)) → w_X11_subjectAt_28 Q := by
    intro f14
    unfold w_X11_subjectAt_28
    exact j_29 0 (by omega) (by omega) (by omega) (by omega) (by omega) (by omega) (by omega)
  refine ⟨fun c4 => ?_, fun c4 => ?_⟩
  · have f15 : r1.toInt = 0 := i_eq (a := r1.toInt) (b := 0) rfl rfl c4
    exact j_28  (by omega)
  · have f16 : r1.toInt ≠ 0 := i_ne (a := r1.toInt) (b := 0) rfl rfl c4
    refine ⟨i_in (by omega) (by omega), ?_⟩
    refine ⟨v0 (by omega) (by omega), ?_⟩
    have f17 : (0 ≤ (bz v_subjects_p1_there).toInt ∧ (bz v_subjects_p1_there).toInt ≤ 1) := i_bzr v_subjects_p1_there
    refine ⟨fun c16 => ?_, fun c16 => ?_⟩
    · have f18 : (bz v_subjects_p1_there).toInt = 0 := i_eq (a := (bz v_subjects_p1_there).toInt) (b := 0) rfl rfl c16
      exact j_28  (by omega)
    · have f19 : (bz v_subjects_p1_there).toInt ≠ 0 := i_ne (a := (bz v_subjects_p1_there).toInt) (b := 0) rfl rfl c16
      refine ⟨i_in (by omega) (by omega), ?_⟩
      refine ⟨v0 (by omega) (by omega), ?_⟩
      exact j_29 1 (by omega) (by omega) (by omega) (by omega) (by omega) (by omega) (by omega)
set_option maxHeartbeats 4000000 in
theorem ok_X11_keepSpans {p1 : Int32} {v_spans_count : Int32} {v_spans_items : Nat → Int32} {nv_spans_items : Nat} {v_found_count : Int32} {v_found_over : Bool} {v_found_items : Nat → Int32} {nv_found_items : Nat} {Q : Int32 → Int32 → Bool → (Nat → Int32) → Prop} (a0 : 0 ≤ v_spans_count.toInt) (a1 : v_spans_count.toInt ≤ (nv_spans_items : Int)) (a2 : (nv_spans_items : Int) ≤ 1000) (a3 : 0 ≤ v_found_count.toInt) (a4 : v_found_count.toInt ≤ (nv_found_items : Int)) (a5 : (nv_found_items : Int) ≤ 1000) (hq : ∀ (r : Int32) (ov_found_count : Int32) (ov_found_over : Bool) (ov_found_items : Nat → Int32), r.toInt = p1.toInt → 0 ≤ ov_found_count.toInt → ov_found_count.toInt ≤ (nv_found_items : Int) → Q r ov_found_count ov_found_over ov_found_items) : w_X11_keepSpans p1 v_spans_count v_spans_items nv_spans_items v_found_count v_found_over v_found_items nv_found_items Q := by
  have q_t : (bz true).toInt = 1 := rfl
  have q_f : (bz false).toInt = 0 := rfl
  unfold w_X11_keepSpans
  have j_30 : ∀ (v_found_count_30 : Int32) (v_found_over_30 : Bool) (v_found_items_30 : Nat → Int32), 0 ≤ v_found_count_30.toInt → v_found_count_30.toInt ≤ (nv_found_items : Int) → ((v_found_count_30.toInt = v_found_count.toInt) ∨ (p1.toInt = 0 ∧ v_found_count_30.toInt = 0) ∨ (p1.toInt = 1 ∧ 0 ≤ v_found_count_30.toInt + 1 ∧ 0 ≤ v_found_count_30.toInt ∧ v_found_count_30.toInt ≤ 1000 ∧ v_found_count_30.toInt ≤ (nv_found_items : Int))) → w_X11_keepSpans_30 p1 Q v_found_count_30 v_found_over_30 v_found_items_30 := by
    intro v_found_count_30 v_found_over_30 v_found_items_30 f1 f2 f3
    unfold w_X11_keepSpans_30
    exact hq p1 v_found_count_30 v_found_over_30 v_found_items_30 (by omega) (by omega) (by omega)
  refine ⟨fun c2 => ?_, fun c2 => ?_⟩
  · have f4 : p1.toInt ≠ 1 := i_ne (a := p1.toInt) (b := 1) rfl rfl c2
    refine ⟨fun c20 => ?_, fun c20 => ?_⟩
    · have f5 : p1.toInt ≠ 0 := i_ne (a := p1.toInt) (b := 0) rfl rfl c20
      exact j_30 v_found_count v_found_over v_found_items (by omega) (by omega) (by omega)
    · have f6 : p1.toInt = 0 := i_eq (a := p1.toInt) (b := 0) rfl rfl c20
      refine ok_X7_empty  (fun r27_0 r27_1 f7 f8 => ?_)
      exact j_30 r27_0 r27_1 v_found_items (by omega) (by omega) (by omega)
  · have f9 : p1.toInt = 1 := i_eq (a := p1.toInt) (b := 1) rfl rfl c2
    refine ok_X7_take (by omega) (by omega) (by omega) (by omega) (fun r13_0 r13_1 r13_2 f10 f11 f12 f13 => ?_)
    exact j_30 r13_0 r13_1 r13_2 (by omega) (by omega) (by omega)
