set_option maxHeartbeats 4000000 in
theorem ok_X3_goAlong_w1 {p1 : Int32} {p2 : Int32} {a3_count : Int32} {a3_over : Bool} {a3_items : Nat → Int32} {na3_items : Nat} {v_width : Int32} {v_nowCount : Int32} {v_nextCount : Int32} {v_stamp : Int32} {v_stackCount : Int32} {v_program_count : Int32} {v_program_kinds : Nat → Int32} {v_program_subjects : Nat → Int32} {v_program_nexts : Nat → Int32} {v_program_others : Nat → Int32} {v_edges : Nat → Bool} {v_nextAt : Nat → Int32} {v_nextCells : Nat → Int32} {v_nowAt : Nat → Int32} {v_nowCells : Nat → Int32} {v_seen : Nat → Int32} {v_waits : Nat → Int32} {v_cells : Nat → Int32} {v_stack : Nat → Int32} {v_kept : Nat → Int32} {v_program_tree_count : Int32} {v_program_tree_ranges : Int32} {v_program_tree_sort : Nat → Int32} {v_program_tree_value : Nat → Int32} {v_program_tree_low : Nat → Int32} {v_program_tree_high : Nat → Int32} {v_program_tree_withinCase : Nat → Bool} {v_program_tree_rangeBegin : Nat → Int32} {v_program_tree_rangeEnd : Nat → Int32} {Q : Int32 → Int32 → Bool → (Nat → Int32) → Int32 → Int32 → (Nat → Int32) → (Nat → Int32) → (Nat → Int32) → (Nat → Int32) → (Nat → Int32) → (Nat → Int32) → (Nat → Int32) → Prop} (a0 : 0 ≤ a3_count.toInt) (a1 : a3_count.toInt ≤ (na3_items : Int)) (a2 : (na3_items : Int) ≤ 1000) (a3 : 0 ≤ v_program_count.toInt) (a4 : v_program_count.toInt ≤ 512) (a5 : 0 ≤ v_program_tree_count.toInt) (a6 : v_program_tree_count.toInt ≤ 256) (a7 : 0 ≤ v_program_tree_ranges.toInt) (a8 : v_program_tree_ranges.toInt ≤ 512) (a9 : 0 ≤ p2.toInt) (a10 : p2.toInt ≤ 1) (hq : ∀ (r : Int32) (oa3_count : Int32) (oa3_over : Bool) (oa3_items : Nat → Int32) (ov_nextCount : Int32) (ov_stackCount : Int32) (ov_nextAt : Nat → Int32) (ov_nextCells : Nat → Int32) (ov_seen : Nat → Int32) (ov_waits : Nat → Int32) (ov_cells : Nat → Int32) (ov_stack : Nat → Int32) (ov_kept : Nat → Int32), v_nextCount.toInt ≤ ov_nextCount.toInt → ((r.toInt = 1 ∧ 0 ≤ oa3_count.toInt + 1 ∧ 0 ≤ oa3_count.toInt ∧ oa3_count.toInt ≤ 20 ∧ oa3_count.toInt ≤ 21 ∧ oa3_count.toInt ≤ (na3_items : Int)) ∨ (r.toInt = 0 ∧ oa3_count.toInt = a3_count.toInt ∧ (bz oa3_over).toInt = (bz a3_over).toInt)) → Q r oa3_count oa3_over oa3_items ov_nextCount ov_stackCount ov_nextAt ov_nextCells ov_seen ov_waits ov_cells ov_stack ov_kept) : w_X3_goAlong_w1 p1 p2 a3_count a3_over a3_items na3_items v_width v_nowCount v_nextCount v_stamp v_stackCount v_program_count v_program_kinds v_program_subjects v_program_nexts v_program_others v_edges v_nextAt v_nextCells v_nowAt v_nowCells v_seen v_waits v_cells v_stack v_kept v_program_tree_count v_program_tree_ranges v_program_tree_sort v_program_tree_value v_program_tree_low v_program_tree_high v_program_tree_withinCase v_program_tree_rangeBegin v_program_tree_rangeEnd Q := by
  have q_t : (bz true).toInt = 1 := rfl
  have q_f : (bz false).toInt = 0 := rfl
  have q_0 : (0 : Int32).toInt = 0 := rfl
  have q_1 : (1 : Int32).toInt = 1 := rfl
  unfold w_X3_goAlong_w1
  have j_3 : ∀ n_3 : Nat, ∀ (l4_3 : Int32) (v_nextCount_3 : Int32) (v_stackCount_3 : Int32) (v_nextAt_3 : Nat → Int32) (v_nextCells_3 : Nat → Int32) (v_seen_3 : Nat → Int32) (v_waits_3 : Nat → Int32) (v_cells_3 : Nat → Int32) (v_stack_3 : Nat → Int32) (v_kept_3 : Nat → Int32), 0 ≤ l4_3.toInt → l4_3.toInt ≤ 256 → v_nextCount.toInt ≤ v_nextCount_3.toInt → ((-1) * l4_3.toInt + 256).toNat < n_3 → w_X3_goAlong_w1_3 p1 p2 na3_items v_width v_nowCount v_stamp v_program_count v_program_kinds v_program_subjects v_program_nexts v_program_others v_edges v_nowAt v_nowCells v_program_tree_count v_program_tree_ranges v_program_tree_sort v_program_tree_value v_program_tree_low v_program_tree_high v_program_tree_withinCase v_program_tree_rangeBegin v_program_tree_rangeEnd Q a3_count a3_over a3_items n_3 l4_3 v_nextCount_3 v_stackCount_3 v_nextAt_3 v_nextCells_3 v_seen_3 v_waits_3 v_cells_3 v_stack_3 v_kept_3 := by
    intro n_3
    induction n_3 with
    | zero =>
      intro l4_3 v_nextCount_3 v_stackCount_3 v_nextAt_3 v_nextCells_3 v_seen_3 v_waits_3 v_cells_3 v_stack_3 v_kept_3 f1 f2 f3 hm_3
      exfalso; omega
    | succ n_3 ih_3 =>
      intro l4_3 v_nextCount_3 v_stackCount_3 v_nextAt_3 v_nextCells_3 v_seen_3 v_waits_3 v_cells_3 v_stack_3 v_kept_3 f1 f2 f3 hm_3
      unfold w_X3_goAlong_w1_3
      unfold w_X3_goAlong_w1_3B
      have j_156 : ((v_nowCount.toInt ≤ l4_3.toInt) ∨ (l4_3.toInt + 1 ≤ v_nowCount.toInt ∧ 256 ≤ l4_3.toInt)) → w_X3_goAlong_w1_156 Q a3_count a3_over a3_items v_nextCount_3 v_stackCount_3 v_nextAt_3 v_nextCells_3 v_seen_3 v_waits_3 v_cells_3 v_stack_3 v_kept_3 := by
        intro f4
        unfold w_X3_goAlong_w1_156
        exact hq 0 a3_count a3_over a3_items v_nextCount_3 v_stackCount_3 v_nextAt_3 v_nextCells_3 v_seen_3 v_waits_3 v_cells_3 v_stack_3 v_kept_3 (by omega) (by omega)
      refine ⟨fun c9 => ?_, fun c9 => ?_⟩
      · have f5 : v_nowCount.toInt ≤ l4_3.toInt := i_le (a := v_nowCount.toInt) (b := l4_3.toInt) rfl rfl c9
        exact j_156  (by omega)
      · have f6 : l4_3.toInt < v_nowCount.toInt := i_nle (a := v_nowCount.toInt) (b := l4_3.toInt) rfl rfl c9
        refine ⟨fun c17 => ?_, fun c17 => ?_⟩
        · have f7 : 256 ≤ l4_3.toInt := i_le (a := 256) (b := l4_3.toInt) rfl rfl c17
          exact j_156  (by omega)
        · have f8 : l4_3.toInt < 256 := i_nle (a := 256) (b := l4_3.toInt) rfl rfl c17
          refine ⟨i_in (by omega) (by omega), ?_⟩
          intro x26 ex26
          intro x37 ex37
          have f9 : x37.toInt = l4_3.toInt * 20 := i_mul (a := l4_3.toInt) (b := 20) ex37 rfl rfl (by omega) (by omega)
          refine ⟨(i_nn (a := x37.toInt) rfl (by omega)), (i_nn (a := 0) rfl (by omega)), (i_nn (a := 20) rfl (by omega)), i_cp (a := x37.toInt) (b := 20) rfl rfl (by omega) (by omega) (by omega), i_cp (a := 0) (b := 20) rfl rfl (by omega) (by omega) (by omega), ?_⟩
          intro g45 eg45
          refine ok_X5_kindOf (by omega) (by omega) (fun r54 f10 => ?_)
          have j_150 : ∀ (v_nextCount_150 : Int32) (v_stackCount_150 : Int32) (v_nextAt_150 : Nat → Int32) (v_nextCells_150 : Nat → Int32) (v_seen_150 : Nat → Int32) (v_waits_150 : Nat → Int32) (v_cells_150 : Nat → Int32) (v_stack_150 : Nat → Int32) (v_kept_150 : Nat → Int32), v_nextCount.toInt ≤ v_nextCount_150.toInt → v_nextCount_3.toInt ≤ v_nextCount_150.toInt → w_X3_goAlong_w1_150 Q (w_X3_goAlong_w1_3 p1 p2 na3_items v_width v_nowCount v_stamp v_program_count v_program_kinds v_program_subjects v_program_nexts v_program_others v_edges v_nowAt v_nowCells v_program_tree_count v_program_tree_ranges v_program_tree_sort v_program_tree_value v_program_tree_low v_program_tree_high v_program_tree_withinCase v_program_tree_rangeBegin v_program_tree_rangeEnd Q a3_count a3_over a3_items n_3) l4_3 v_nextCount_150 v_stackCount_150 v_nextAt_150 v_nextCells_150 v_seen_150 v_waits_150 v_cells_150 v_stack_150 v_kept_150 := by
            intro v_nextCount_150 v_stackCount_150 v_nextAt_150 v_nextCells_150 v_seen_150 v_waits_150 v_cells_150 v_stack_150 v_kept_150 f11 f12
            unfold w_X3_goAlong_w1_150
            intro x150 ex150
            have f13 : x150.toInt = l4_3.toInt + 1 := i_add (a := l4_3.toInt) (b := 1) ex150 rfl rfl (by omega) (by omega)
            exact ih_3 x150 v_nextCount_150 v_stackCount_150 v_nextAt_150 v_nextCells_150 v_seen_150 v_waits_150 v_cells_150 v_stack_150 v_kept_150  (by omega) (by omega) (by omega) (by have h8_0 := i_rng l4_3; have h8_1 := i_rng x150; omega)
          refine ⟨fun c59 => ?_, fun c59 => ?_⟩
          · have f14 : r54.toInt = 6 := i_eq (a := r54.toInt) (b := 6) rfl rfl c59
            have j_136 : ((p2.toInt = 0) ∨ (p1.toInt = a3_count.toInt)) → w_X3_goAlong_w1_136 p1 na3_items v_width Q a3_count a3_over a3_items v_nextCount_3 v_stackCount_3 v_nextAt_3 v_nextCells_3 v_seen_3 v_waits_3 g45 v_stack_3 v_kept_3 := by
              intro f15
              unfold w_X3_goAlong_w1_136
              intro g142 eg142
              refine ok_X3_tell (by omega) (fun r145_0 r145_1 r145_2 f16 f17 f18 f19 f20 => ?_)
              exact hq 1 r145_0 r145_1 r145_2 v_nextCount_3 v_stackCount_3 v_nextAt_3 v_nextCells_3 v_seen_3 v_waits_3 g142 v_stack_3 v_kept_3 (by omega) (by omega)
            refine ⟨fun c122 => ?_, fun c122 => ?_⟩
            · have f21 : p2.toInt = 0 := i_eq (a := p2.toInt) (b := 0) rfl rfl c122
              exact j_136  (by omega)
            · have f22 : p2.toInt ≠ 0 := i_ne (a := p2.toInt) (b := 0) rfl rfl c122
              refine ⟨fun c133 => ?_, fun c133 => ?_⟩
              · have f23 : p1.toInt ≠ a3_count.toInt := i_ne (a := p1.toInt) (b := a3_count.toInt) rfl rfl c133
                exact j_150 v_nextCount_3 v_stackCount_3 v_nextAt_3 v_nextCells_3 v_seen_3 v_waits_3 g45 v_stack_3 v_kept_3 (by omega) (by omega)
              · have f24 : p1.toInt = a3_count.toInt := i_eq (a := p1.toInt) (b := a3_count.toInt) rfl rfl c133
                exact j_136  (by omega)
          · have f25 : r54.toInt ≠ 6 := i_ne (a := r54.toInt) (b := 6) rfl rfl c59
            refine ⟨fun c70 => ?_, fun c70 => ?_⟩
            · have f26 : a3_count.toInt ≤ p1.toInt := i_le (a := a3_count.toInt) (b := p1.toInt) rfl rfl c70
              exact j_150 v_nextCount_3 v_stackCount_3 v_nextAt_3 v_nextCells_3 v_seen_3 v_waits_3 g45 v_stack_3 v_kept_3 (by omega) (by omega)
            · have f27 : p1.toInt < a3_count.toInt := i_nle (a := a3_count.toInt) (b := p1.toInt) rfl rfl c70
              refine ok_X7_at (by omega) (by omega) (by omega) (fun r84 f28 => ?_)
              refine ok_X5_takes (by omega) (by omega) (by omega) (by omega) (by omega) (by omega) (fun r87 f29 f30 => ?_)
              refine ⟨fun c90 => ?_, fun c90 => ?_⟩
              · have f31 : r87.toInt = 0 := i_eq (a := r87.toInt) (b := 0) rfl rfl c90
                exact j_150 v_nextCount_3 v_stackCount_3 v_nextAt_3 v_nextCells_3 v_seen_3 v_waits_3 g45 v_stack_3 v_kept_3 (by omega) (by omega)
              · have f32 : r87.toInt ≠ 0 := i_ne (a := r87.toInt) (b := 0) rfl rfl c90
                refine ok_X5_nextOf (by omega) (by omega) (fun r100 f33 => ?_)
                refine ok_X5_otherOf (by omega) (by omega) (fun r109 f34 => ?_)
                intro x114 ex114
                have f35 : x114.toInt = p1.toInt + 1 := i_add (a := p1.toInt) (b := 1) ex114 rfl rfl (by have h8_1 := i_rng a3_count; have h8_2 := i_rng p1; have h8_3 := i_rng r84; omega) (by omega)
                refine ok_X3_spread (by omega) (by omega) (fun r115_0 r115_1 r115_2 r115_3 r115_4 r115_5 r115_6 r115_7 r115_8 f36 f37 f38 => ?_)
                exact j_150 r115_0 r115_1 r115_2 r115_3 r115_4 r115_5 r115_6 r115_7 r115_8 (by omega) (by omega)
  exact ⟨(256 : Int).toNat + 1, j_3   ((256 : Int).toNat + 1) 0 v_nextCount v_stackCount v_nextAt v_nextCells v_seen v_waits v_cells v_stack v_kept  (by omega) (by omega) (by omega) (by omega)⟩
set_option maxHeartbeats 4000000 in
theorem ok_J7_fill_53178 {p1 : Int32} {a0_ : Nat → Int32} {Q : (Nat → Int32) → Prop} (hq : ∀ (oa0_ : Nat → Int32), Q oa0_) : w_J7_fill_53178 p1 a0_ Q := by
  have q_t : (bz true).toInt = 1 := rfl
  have q_f : (bz false).toInt = 0 := rfl
  have q_0 : (0 : Int32).toInt = 0 := rfl
  have q_20 : (20 : Int32).toInt = 20 := rfl
  unfold w_J7_fill_53178
  have j_5 : ∀ n_5 : Nat, ∀ (l2_5 : Int32) (a0__5 : Nat → Int32), 0 ≤ l2_5.toInt → ((-1) * l2_5.toInt + 2147483648).toNat < n_5 → w_J7_fill_53178_5 p1 Q 20 n_5 l2_5 a0__5 := by
    intro n_5
    induction n_5 with
    | zero =>
      intro l2_5 a0__5 f1 hm_5
      exfalso; omega
    | succ n_5 ih_5 =>
      intro l2_5 a0__5 f1 hm_5
      unfold w_J7_fill_53178_5
      unfold w_J7_fill_53178_5B
      refine ⟨fun c7 => ?_, fun c7 => ?_⟩
      · have f2 : 20 ≤ l2_5.toInt := i_le (a := 20) (b := l2_5.toInt) rfl rfl c7
        exact hq a0__5 
      · have f3 : l2_5.toInt < 20 := i_nle (a := 20) (b := l2_5.toInt) rfl rfl c7
        refine ⟨i_in (by omega) (by omega), ?_⟩
        intro g13 eg13
        intro x14 ex14
        have f4 : x14.toInt = l2_5.toInt + 1 := i_add (a := l2_5.toInt) (b := 1) ex14 rfl rfl (by omega) (by omega)
        exact ih_5 x14 g13  (by omega) (by have h8_0 := i_rng l2_5; have h8_1 := i_rng x14; omega)
  exact ⟨(2147483648 : Int).toNat + 1, j_5   ((2147483648 : Int).toNat + 1) 0 a0_  (by omega) (by omega)⟩
set_option maxHeartbeats 4000000 in
theorem ok_X3_run {p3 : Int32} {p4 : Int32} {a2_count : Int32} {a2_over : Bool} {a2_items : Nat → Int32} {na2_items : Nat} {v_nowCount : Int32} {v_stamp : Int32} {v_stackCount : Int32} {v_program_start : Int32} {v_program_kinds : Nat → Int32} {v_program_subjects : Nat → Int32} {v_program_nexts : Nat → Int32} {v_program_others : Nat → Int32} {v_edges : Nat → Bool} {v_nowAt : Nat → Int32} {v_nowCells : Nat → Int32} {v_nextAt : Nat → Int32} {v_nextCells : Nat → Int32} {v_seen : Nat → Int32} {v_waits : Nat → Int32} {v_cells : Nat → Int32} {v_stack : Nat → Int32} {v_kept : Nat → Int32} {a1_there : Bool} {a1_count : Int32} {a1_captures : Int32} {a1_ranges : Int32} {a1_sort : Nat → Int32} {a1_end : Nat → Int32} {a1_before : Nat → Int32} {a1_last : Nat → Int32} {a1_value : Nat → Int32} {a1_low : Nat → Int32} {a1_high : Nat → Int32} {a1_withinCase : Nat → Bool} {a1_rangeBegin : Nat → Int32} {a1_rangeEnd : Nat → Int32} {h10 : Nat} {h11 : Nat} {h12 : Nat} {h13 : Nat} {Q : Int32 → Int32 → Bool → (Nat → Int32) → Int32 → Int32 → Int32 → Int32 → Int32 → Int32 → Int32 → (Nat → Int32) → (Nat → Int32) → (Nat → Int32) → (Nat → Int32) → (Nat → Bool) → Nat → (Nat → Int32) → Nat → (Nat → Int32) → Nat → (Nat → Int32) → Nat → (Nat → Int32) → (Nat → Int32) → (Nat → Int32) → (Nat → Int32) → (Nat → Int32) → (Nat → Int32) → Prop} (a0 : 0 ≤ a2_count.toInt) (a1 : a2_count.toInt ≤ (na2_items : Int)) (a2 : (na2_items : Int) ≤ 1000) (a3 : 0 ≤ a1_count.toInt) (a4 : a1_count.toInt ≤ 256) (a5 : 0 ≤ a1_ranges.toInt) (a6 : a1_ranges.toInt ≤ 512) (a7 : 0 ≤ p4.toInt) (a8 : p4.toInt ≤ 1) (b0 : rp (fun k v => -1 ≤ v ∧ v ≤ 255) a1_last 0 a1_count.toInt) (b1 : rp (fun k v => k < v ∧ v ≤ 256) a1_end 0 a1_count.toInt) (b2 : rp (fun k v => v < k ∧ -1 ≤ v) a1_before 0 a1_count.toInt) (hq : ∀ (r : Int32) (oa2_count : Int32) (oa2_over : Bool) (oa2_items : Nat → Int32) (ov_width : Int32) (ov_nowCount : Int32) (ov_nextCount : Int32) (ov_stamp : Int32) (ov_stackCount : Int32) (ov_program_start : Int32) (ov_program_count : Int32) (ov_program_kinds : Nat → Int32) (ov_program_subjects : Nat → Int32) (ov_program_nexts : Nat → Int32) (ov_program_others : Nat → Int32) (ov_edges : Nat → Bool) (oh10 : Nat) (ov_nowAt : Nat → Int32) (oh11 : Nat) (ov_nowCells : Nat → Int32) (oh12 : Nat) (ov_nextAt : Nat → Int32) (oh13 : Nat) (ov_nextCells : Nat → Int32) (ov_seen : Nat → Int32) (ov_waits : Nat → Int32) (ov_cells : Nat → Int32) (ov_stack : Nat → Int32) (ov_kept : Nat → Int32), 0 ≤ ov_program_count.toInt → ov_program_count.toInt ≤ 512 → 0 ≤ oa2_count.toInt → oa2_count.toInt ≤ (na2_items : Int) → 0 ≤ r.toInt → r.toInt ≤ 1 → 0 ≤ ov_nextCount.toInt → ov_width.toInt ≤ 20 → Q r oa2_count oa2_over oa2_items ov_width ov_nowCount ov_nextCount ov_stamp ov_stackCount ov_program_start ov_program_count ov_program_kinds ov_program_subjects ov_program_nexts ov_program_others ov_edges oh10 ov_nowAt oh11 ov_nowCells oh12 ov_nextAt oh13 ov_nextCells ov_seen ov_waits ov_cells ov_stack ov_kept) : w_X3_run p3 p4 a2_count a2_over a2_items na2_items v_nowCount v_stamp v_stackCount v_program_start v_program_kinds v_program_subjects v_program_nexts v_program_others v_edges v_nowAt v_nowCells v_nextAt v_nextCells v_seen v_waits v_cells v_stack v_kept a1_there a1_count a1_captures a1_ranges a1_sort a1_end a1_before a1_last a1_value a1_low a1_high a1_withinCase a1_rangeBegin a1_rangeEnd h10 h11 h12 h13 Q := by
  have q_t : (bz true).toInt = 1 := rfl
  have q_f : (bz false).toInt = 0 := rfl
  have q_m1 : ((-1) : Int32).toInt = (-1) := rfl
  have q_0 : (0 : Int32).toInt = 0 := rfl
  unfold w_X3_run
  refine ok_X5_write (by omega) (by omega) (by omega) (by omega) (rp_mono b0 (by omega) (by omega)) (rp_mono b1 (by omega) (by omega)) (rp_mono b2 (by omega) (by omega)) (fun r5_0 r5_1 r5_2 r5_3 r5_4 r5_5 f1 f2 => ?_)
  intro x100021 ex100021
  intro x100023 ex100023
  intro x100024 ex100024
  have f3 : ((x100024.toInt = 20 ∧ 20 ≤ x100023.toInt) ∨ (x100024.toInt = x100023.toInt ∧ x100023.toInt ≤ 20)) := by have h9 := i_min (a := x100023.toInt) (b := 20) ex100024 rfl rfl; omega
  intro x100041 ex100041
  have j_100051 : ∀ n_100051 : Nat, ∀ (l6_100051 : Int32) (l7_100051 : Int32) (a2_count_100051 : Int32) (a2_over_100051 : Bool) (a2_items_100051 : Nat → Int32) (v_nowCount_100051 : Int32) (v_nextCount_100051 : Int32) (v_stamp_100051 : Int32) (v_stackCount_100051 : Int32) (v_edges_100051 : Nat → Bool) (v_nowAt_100051 : Nat → Int32) (v_nowCells_100051 : Nat → Int32) (v_nextAt_100051 : Nat → Int32) (v_nextCells_100051 : Nat → Int32) (v_seen_100051 : Nat → Int32) (v_waits_100051 : Nat → Int32) (v_cells_100051 : Nat → Int32) (v_stack_100051 : Nat → Int32) (v_kept_100051 : Nat → Int32), 0 ≤ l6_100051.toInt → l6_100051.toInt ≤ 1 → p3.toInt ≤ l7_100051.toInt → 0 ≤ v_nextCount_100051.toInt → 0 ≤ a2_count_100051.toInt → a2_count_100051.toInt ≤ (na2_items : Int) → ((-1) * l7_100051.toInt + 2147483648).toNat < n_100051 → w_X3_run_100051 p3 p4 na2_items a1_count a1_ranges a1_sort a1_value a1_low a1_high a1_withinCase a1_rangeBegin a1_rangeEnd h10 h11 h12 h13 Q x100024 r5_0 r5_1 r5_2 r5_3 r5_4 r5_5 n_100051 l6_100051 l7_100051 a2_count_100051 a2_over_100051 a2_items_100051 v_nowCount_100051 v_nextCount_100051 v_stamp_100051 v_stackCount_100051 v_edges_100051 v_nowAt_100051 v_nowCells_100051 v_nextAt_100051 v_nextCells_100051 v_seen_100051 v_waits_100051 v_cells_100051 v_stack_100051 v_kept_100051 := by
    intro n_100051
    induction n_100051 with
    | zero =>
      intro l6_100051 l7_100051 a2_count_100051 a2_over_100051 a2_items_100051 v_nowCount_100051 v_nextCount_100051 v_stamp_100051 v_stackCount_100051 v_edges_100051 v_nowAt_100051 v_nowCells_100051 v_nextAt_100051 v_nextCells_100051 v_seen_100051 v_waits_100051 v_cells_100051 v_stack_100051 v_kept_100051 f4 f5 f6 f7 f8 f9 hm_100051
      exfalso; omega
    | succ n_100051 ih_100051 =>
      intro l6_100051 l7_100051 a2_count_100051 a2_over_100051 a2_items_100051 v_nowCount_100051 v_nextCount_100051 v_stamp_100051 v_stackCount_100051 v_edges_100051 v_nowAt_100051 v_nowCells_100051 v_nextAt_100051 v_nextCells_100051 v_seen_100051 v_waits_100051 v_cells_100051 v_stack_100051 v_kept_100051 f4 f5 f6 f7 f8 f9 hm_100051
      unfold w_X3_run_100051
      unfold w_X3_run_100051B
      have j_100168 : ∀ (l6_100168 : Int32) (a2_count_100168 : Int32) (a2_over_100168 : Bool) (a2_items_100168 : Nat → Int32) (v_nowCount_100168 : Int32) (v_nextCount_100168 : Int32) (v_stamp_100168 : Int32) (v_stackCount_100168 : Int32) (v_edges_100168 : Nat → Bool) (v_nowAt_100168 : Nat → Int32) (v_nowCells_100168 : Nat → Int32) (v_nextAt_100168 : Nat → Int32) (v_nextCells_100168 : Nat → Int32) (v_seen_100168 : Nat → Int32) (v_waits_100168 : Nat → Int32) (v_cells_100168 : Nat → Int32) (v_stack_100168 : Nat → Int32) (v_kept_100168 : Nat → Int32), 0 ≤ a2_count_100168.toInt → a2_count_100168.toInt ≤ (na2_items : Int) → 0 ≤ l6_100168.toInt → l6_100168.toInt ≤ 1 → 0 ≤ v_nextCount_100168.toInt → w_X3_run_100168 h10 h11 h12 h13 Q l6_100168 a2_count_100168 a2_over_100168 a2_items_100168 x100024 v_nowCount_100168 v_nextCount_100168 v_stamp_100168 v_stackCount_100168 r5_0 r5_1 r5_2 r5_3 r5_4 r5_5 v_edges_100168 v_nowAt_100168 v_nowCells_100168 v_nextAt_100168 v_nextCells_100168 v_seen_100168 v_waits_100168 v_cells_100168 v_stack_100168 v_kept_100168 := by
        intro l6_100168 a2_count_100168 a2_over_100168 a2_items_100168 v_nowCount_100168 v_nextCount_100168 v_stamp_100168 v_stackCount_100168 v_edges_100168 v_nowAt_100168 v_nowCells_100168 v_nextAt_100168 v_nextCells_100168 v_seen_100168 v_waits_100168 v_cells_100168 v_stack_100168 v_kept_100168 f10 f11 f12 f13 f14
        unfold w_X3_run_100168
        refine ⟨i_01 (by omega) (by omega), ?_⟩
        exact hq l6_100168 a2_count_100168 a2_over_100168 a2_items_100168 x100024 v_nowCount_100168 v_nextCount_100168 v_stamp_100168 v_stackCount_100168 r5_0 r5_1 r5_2 r5_3 r5_4 r5_5 v_edges_100168 h10 v_nowAt_100168 h11 v_nowCells_100168 h12 v_nextAt_100168 h13 v_nextCells_100168 v_seen_100168 v_waits_100168 v_cells_100168 v_stack_100168 v_kept_100168 (by omega) (by omega) (by omega) (by omega) (by omega) (by omega) (by omega) (by omega)
      refine ⟨fun c100060 => ?_, fun c100060 => ?_⟩
      · have f15 : a2_count_100051.toInt < l7_100051.toInt := i_lt (a := a2_count_100051.toInt) (b := l7_100051.toInt) rfl rfl c100060
        exact j_100168 l6_100051 a2_count_100051 a2_over_100051 a2_items_100051 v_nowCount_100051 v_nextCount_100051 v_stamp_100051 v_stackCount_100051 v_edges_100051 v_nowAt_100051 v_nowCells_100051 v_nextAt_100051 v_nextCells_100051 v_seen_100051 v_waits_100051 v_cells_100051 v_stack_100051 v_kept_100051 (by omega) (by omega) (by omega) (by omega) (by omega)
      · have f16 : l7_100051.toInt ≤ a2_count_100051.toInt := i_nlt (a := a2_count_100051.toInt) (b := l7_100051.toInt) rfl rfl c100060
        have j_100115 : ∀ (v_nextCount_100115 : Int32) (v_stackCount_100115 : Int32) (v_edges_100115 : Nat → Bool) (v_nextAt_100115 : Nat → Int32) (v_nextCells_100115 : Nat → Int32) (v_seen_100115 : Nat → Int32) (v_waits_100115 : Nat → Int32) (v_cells_100115 : Nat → Int32) (v_stack_100115 : Nat → Int32) (v_kept_100115 : Nat → Int32), v_nextCount_100051.toInt ≤ v_nextCount_100115.toInt → ((v_nextCount_100115.toInt = v_nextCount_100051.toInt) ∨ (v_nextCount_100115.toInt = v_nextCount_100051.toInt ∧ l6_100051.toInt = 0) ∨ (l6_100051.toInt = 0 ∧ v_nextCount_100051.toInt ≤ v_nextCount_100115.toInt ∧ 0 ≤ v_stackCount_100115.toInt + 1 ∧ 0 ≤ v_stackCount_100115.toInt)) → w_X3_run_100115 p3 p4 na2_items a1_count a1_ranges a1_sort a1_value a1_low a1_high a1_withinCase a1_rangeBegin a1_rangeEnd h10 h11 h12 h13 x100024 r5_0 r5_1 r5_2 r5_3 r5_4 r5_5 Q (w_X3_run_100051 p3 p4 na2_items a1_count a1_ranges a1_sort a1_value a1_low a1_high a1_withinCase a1_rangeBegin a1_rangeEnd h10 h11 h12 h13 Q x100024 r5_0 r5_1 r5_2 r5_3 r5_4 r5_5 n_100051) l6_100051 l7_100051 a2_count_100051 a2_over_100051 a2_items_100051 v_nowCount_100051 v_nextCount_100115 v_stamp_100051 v_stackCount_100115 v_edges_100115 v_nowAt_100051 v_nowCells_100051 v_nextAt_100115 v_nextCells_100115 v_seen_100115 v_waits_100115 v_cells_100115 v_stack_100115 v_kept_100115 := by
          intro v_nextCount_100115 v_stackCount_100115 v_edges_100115 v_nextAt_100115 v_nextCells_100115 v_seen_100115 v_waits_100115 v_cells_100115 v_stack_100115 v_kept_100115 f17 f18
          unfold w_X3_run_100115
          refine ok_X3_exchangeLists  (fun r100116_0 r100116_1 r100116_2 f19 f20 => ?_)
          have j_200168 : ∀ (l6_200168 : Int32) (a2_count_200168 : Int32) (a2_over_200168 : Bool) (a2_items_200168 : Nat → Int32) (v_nextCount_200168 : Int32) (v_stackCount_200168 : Int32) (v_edges_200168 : Nat → Bool) (v_nowAt_200168 : Nat → Int32) (v_nowCells_200168 : Nat → Int32) (v_seen_200168 : Nat → Int32) (v_waits_200168 : Nat → Int32) (v_cells_200168 : Nat → Int32) (v_stack_200168 : Nat → Int32) (v_kept_200168 : Nat → Int32), 0 ≤ a2_count_200168.toInt → a2_count_200168.toInt ≤ (na2_items : Int) → 0 ≤ l6_200168.toInt → l6_200168.toInt ≤ 1 → 0 ≤ v_nextCount_200168.toInt → w_X3_run_200168 h10 h11 h12 h13 Q l6_200168 a2_count_200168 a2_over_200168 a2_items_200168 x100024 r100116_0 v_nextCount_200168 r100116_2 v_stackCount_200168 r5_0 r5_1 r5_2 r5_3 r5_4 r5_5 v_edges_200168 v_nowAt_200168 v_nowCells_200168 v_nextAt_100115 v_nextCells_100115 v_seen_200168 v_waits_200168 v_cells_200168 v_stack_200168 v_kept_200168 := by
            intro l6_200168 a2_count_200168 a2_over_200168 a2_items_200168 v_nextCount_200168 v_stackCount_200168 v_edges_200168 v_nowAt_200168 v_nowCells_200168 v_seen_200168 v_waits_200168 v_cells_200168 v_stack_200168 v_kept_200168 f21 f22 f23 f24 f25
            unfold w_X3_run_200168
            refine ⟨i_01 (by omega) (by omega), ?_⟩
            exact hq l6_200168 a2_count_200168 a2_over_200168 a2_items_200168 x100024 r100116_0 v_nextCount_200168 r100116_2 v_stackCount_200168 r5_0 r5_1 r5_2 r5_3 r5_4 r5_5 v_edges_200168 h12 v_nextAt_100115 h13 v_nextCells_100115 h10 v_nowAt_200168 h11 v_nowCells_200168 v_seen_200168 v_waits_200168 v_cells_200168 v_stack_200168 v_kept_200168 (by omega) (by omega) (by omega) (by omega) (by omega) (by omega) (by omega) (by omega)
          have j_200139 : w_X3_run_200139 p3 p4 na2_items a1_count a1_ranges a1_sort a1_value a1_low a1_high a1_withinCase a1_rangeBegin a1_rangeEnd h10 h11 h12 h13 x100024 r5_0 r5_1 r5_2 r5_3 r5_4 r5_5 Q (w_X3_run_100051 p3 p4 na2_items a1_count a1_ranges a1_sort a1_value a1_low a1_high a1_withinCase a1_rangeBegin a1_rangeEnd h10 h11 h12 h13 Q x100024 r5_0 r5_1 r5_2 r5_3 r5_4 r5_5 n_100051) l6_100051 l7_100051 a2_count_100051 a2_over_100051 a2_items_100051 r100116_0 r100116_1 r100116_2 v_stackCount_100115 v_edges_100115 v_nowAt_100051 v_nowCells_100051 v_nextAt_100115 v_nextCells_100115 v_seen_100115 v_waits_100115 v_cells_100115 v_stack_100115 v_kept_100115 := by
            unfold w_X3_run_200139
            intro x200143 ex200143
            have f26 : x200143.toInt = l7_100051.toInt + 1 := i_add (a := l7_100051.toInt) (b := 1) ex200143 rfl rfl (by have h8_1 := i_rng a2_count; have h8_2 := i_rng a2_count_100051; have h8_3 := i_rng l7_100051; have h8_4 := i_rng p3; omega) (by omega)
            refine ok_X3_markEdges (by omega) (by omega) (by omega) (fun r200144_0 => ?_)
            refine ok_X3_goAlong_w1 (by omega) (by omega) (by omega) (by omega) (by omega) (by omega) (by omega) (by omega) (by omega) (by omega) (by omega) (fun r200156 r200156_0 r200156_1 r200156_2 r200156_3 r200156_4 r200156_5 r200156_6 r200156_7 r200156_8 r200156_9 r200156_10 r200156_11 f27 f28 => ?_)
            intro x200159 ex200159
            have f29 : (0 ≤ x200159.toInt ∧ x200159.toInt ≤ 1) := i_or01 (a := l6_100051.toInt) (b := r200156.toInt) ex200159 rfl rfl (by omega) (by omega) (by omega) (by omega)
            intro x200162 ex200162
            have f30 : x200162.toInt = l7_100051.toInt + 1 := i_add (a := l7_100051.toInt) (b := 1) ex200162 rfl rfl (by have h8_0 := i_rng (bz a2_over_100051); have h8_1 := i_rng (bz r200156_1); have h8_3 := i_rng a2_count; have h8_4 := i_rng a2_count_100051; have h8_5 := i_rng l7_100051; have h8_6 := i_rng p3; have h8_7 := i_rng r200156; have h8_8 := i_rng r200156_0; have h8_9 := i_rng x200143; omega) (by omega)
            refine ⟨fun c200060 => ?_, fun c200060 => ?_⟩
            · have f31 : r200156_0.toInt < x200162.toInt := i_lt (a := r200156_0.toInt) (b := x200162.toInt) rfl rfl c200060
              exact j_200168 x200159 r200156_0 r200156_1 r200156_2 r200156_3 r200156_4 r200144_0 r200156_5 r200156_6 r200156_7 r200156_8 r200156_9 r200156_10 r200156_11 (by omega) (by omega) (by omega) (by omega) (by omega)
            · have f32 : x200162.toInt ≤ r200156_0.toInt := i_nlt (a := r200156_0.toInt) (b := x200162.toInt) rfl rfl c200060
              have j_200115 : ∀ (v_nextCount_200115 : Int32) (v_stackCount_200115 : Int32) (v_edges_200115 : Nat → Bool) (v_nowAt_200115 : Nat → Int32) (v_nowCells_200115 : Nat → Int32) (v_seen_200115 : Nat → Int32) (v_waits_200115 : Nat → Int32) (v_cells_200115 : Nat → Int32) (v_stack_200115 : Nat → Int32) (v_kept_200115 : Nat → Int32), ((v_nextCount_200115.toInt = r200156_3.toInt) ∨ (v_nextCount_200115.toInt = r200156_3.toInt ∧ x200159.toInt = 0) ∨ (x200159.toInt = 0 ∧ p4.toInt = 0 ∧ r200156_3.toInt ≤ v_nextCount_200115.toInt ∧ 0 ≤ v_stackCount_200115.toInt + 1 ∧ 0 ≤ v_stackCount_200115.toInt)) → w_X3_run_200115 p4 na2_items a1_count a1_ranges a1_sort a1_value a1_low a1_high a1_withinCase a1_rangeBegin a1_rangeEnd h10 h11 h12 h13 x100024 r5_0 r5_1 r5_2 r5_3 r5_4 r5_5 Q (w_X3_run_100051 p3 p4 na2_items a1_count a1_ranges a1_sort a1_value a1_low a1_high a1_withinCase a1_rangeBegin a1_rangeEnd h10 h11 h12 h13 Q x100024 r5_0 r5_1 r5_2 r5_3 r5_4 r5_5 n_100051) x200159 x200162 r200156_0 r200156_1 r200156_2 r100116_0 v_nextCount_200115 r100116_2 v_stackCount_200115 v_edges_200115 v_nowAt_200115 v_nowCells_200115 v_nextAt_100115 v_nextCells_100115 v_seen_200115 v_waits_200115 v_cells_200115 v_stack_200115 v_kept_200115 := by
                intro v_nextCount_200115 v_stackCount_200115 v_edges_200115 v_nowAt_200115 v_nowCells_200115 v_seen_200115 v_waits_200115 v_cells_200115 v_stack_200115 v_kept_200115 f33
                unfold w_X3_run_200115
                refine ok_X3_exchangeLists  (fun r200116_0 r200116_1 r200116_2 f34 f35 => ?_)
                have j_100139 : w_X3_run_100139 p4 na2_items a1_count a1_ranges a1_sort a1_value a1_low a1_high a1_withinCase a1_rangeBegin a1_rangeEnd x100024 r5_1 r5_2 r5_3 r5_4 r5_5 Q (w_X3_run_100051 p3 p4 na2_items a1_count a1_ranges a1_sort a1_value a1_low a1_high a1_withinCase a1_rangeBegin a1_rangeEnd h10 h11 h12 h13 Q x100024 r5_0 r5_1 r5_2 r5_3 r5_4 r5_5 n_100051) x200159 x200162 r200156_0 r200156_1 r200156_2 r200116_0 r200116_1 r200116_2 v_stackCount_200115 v_edges_200115 v_nowAt_200115 v_nowCells_200115 v_nextAt_100115 v_nextCells_100115 v_seen_200115 v_waits_200115 v_cells_200115 v_stack_200115 v_kept_200115 := by
                  unfold w_X3_run_100139
                  intro x100143 ex100143
                  have f36 : x100143.toInt = x200162.toInt + 1 := i_add (a := x200162.toInt) (b := 1) ex100143 rfl rfl (by have h8_0 := i_rng (bz a2_over_100051); have h8_1 := i_rng (bz r200156_1); have h8_3 := i_rng a2_count; have h8_4 := i_rng a2_count_100051; have h8_5 := i_rng l7_100051; have h8_6 := i_rng p3; have h8_7 := i_rng r200156; have h8_8 := i_rng r200156_0; have h8_9 := i_rng x200143; have h8_10 := i_rng x200162; omega) (by omega)
                  refine ok_X3_markEdges (by omega) (by omega) (by omega) (fun r100144_0 => ?_)
                  refine ok_X3_goAlong_w1 (by omega) (by omega) (by omega) (by omega) (by omega) (by omega) (by omega) (by omega) (by omega) (by omega) (by omega) (fun r100156 r100156_0 r100156_1 r100156_2 r100156_3 r100156_4 r100156_5 r100156_6 r100156_7 r100156_8 r100156_9 r100156_10 r100156_11 f37 f38 => ?_)
                  intro x100159 ex100159
                  have f39 : (0 ≤ x100159.toInt ∧ x100159.toInt ≤ 1) := i_or01 (a := x200159.toInt) (b := r100156.toInt) ex100159 rfl rfl (by omega) (by omega) (by omega) (by omega)
                  intro x100162 ex100162
                  have f40 : x100162.toInt = x200162.toInt + 1 := i_add (a := x200162.toInt) (b := 1) ex100162 rfl rfl (by have h8_0 := i_rng (bz a2_over_100051); have h8_1 := i_rng (bz r100156_1); have h8_2 := i_rng (bz r200156_1); have h8_4 := i_rng a2_count; have h8_5 := i_rng a2_count_100051; have h8_6 := i_rng l7_100051; have h8_7 := i_rng p3; have h8_8 := i_rng r100156; have h8_9 := i_rng r100156_0; have h8_10 := i_rng r200156; have h8_11 := i_rng r200156_0; omega) (by omega)
                  exact ih_100051 x100159 x100162 r100156_0 r100156_1 r100156_2 r200116_0 r100156_3 r200116_2 r100156_4 r100144_0 v_nowAt_200115 v_nowCells_200115 r100156_5 r100156_6 r100156_7 r100156_8 r100156_9 r100156_10 r100156_11  (by omega) (by omega) (by omega) (by omega) (by omega) (by omega) (by have h8_0 := i_rng l7_100051; have h8_1 := i_rng x100162; omega)
                refine ⟨fun c100123 => ?_, fun c100123 => ?_⟩
                · have f41 : r200116_0.toInt ≠ 0 := i_ne (a := r200116_0.toInt) (b := 0) rfl rfl c100123
                  exact j_100139  
                · have f42 : r200116_0.toInt = 0 := i_eq (a := r200116_0.toInt) (b := 0) rfl rfl c100123
                  refine ⟨fun c100128 => ?_, fun c100128 => ?_⟩
                  · have f43 : x200159.toInt ≠ 0 := i_ne (a := x200159.toInt) (b := 0) rfl rfl c100128
                    exact j_100168 x200159 r200156_0 r200156_1 r200156_2 r200116_0 r200116_1 r200116_2 v_stackCount_200115 v_edges_200115 v_nowAt_200115 v_nowCells_200115 v_nextAt_100115 v_nextCells_100115 v_seen_200115 v_waits_200115 v_cells_200115 v_stack_200115 v_kept_200115 (by omega) (by omega) (by omega) (by omega) (by omega)
                  · have f44 : x200159.toInt = 0 := i_eq (a := x200159.toInt) (b := 0) rfl rfl c100128
                    refine ⟨fun c100133 => ?_, fun c100133 => ?_⟩
                    · have f45 : p4.toInt = 0 := i_eq (a := p4.toInt) (b := 0) rfl rfl c100133
                      exact j_100139  
                    · have f46 : p4.toInt ≠ 0 := i_ne (a := p4.toInt) (b := 0) rfl rfl c100133
                      exact j_100168 x200159 r200156_0 r200156_1 r200156_2 r200116_0 r200116_1 r200116_2 v_stackCount_200115 v_edges_200115 v_nowAt_200115 v_nowCells_200115 v_nextAt_100115 v_nextCells_100115 v_seen_200115 v_waits_200115 v_cells_200115 v_stack_200115 v_kept_200115 (by omega) (by omega) (by omega) (by omega) (by omega)
              refine ⟨fun c200065 => ?_, fun c200065 => ?_⟩
              · have f47 : x200159.toInt ≠ 0 := i_ne (a := x200159.toInt) (b := 0) rfl rfl c200065
                exact j_200115 r200156_3 r200156_4 r200144_0 r200156_5 r200156_6 r200156_7 r200156_8 r200156_9 r200156_10 r200156_11 (by omega)
              · have f48 : x200159.toInt = 0 := i_eq (a := x200159.toInt) (b := 0) rfl rfl c200065
                have j_200079 : x200162.toInt ≠ p3.toInt → p4.toInt = 0 → w_X3_run_200079 p4 na2_items a1_count a1_ranges a1_sort a1_value a1_low a1_high a1_withinCase a1_rangeBegin a1_rangeEnd h10 h11 h12 h13 x100024 r5_0 r5_1 r5_2 r5_3 r5_4 r5_5 Q (w_X3_run_100051 p3 p4 na2_items a1_count a1_ranges a1_sort a1_value a1_low a1_high a1_withinCase a1_rangeBegin a1_rangeEnd h10 h11 h12 h13 Q x100024 r5_0 r5_1 r5_2 r5_3 r5_4 r5_5 n_100051) x200159 x200162 r200156_0 r200156_1 r200156_2 r100116_0 r200156_3 r100116_2 r200156_4 r200144_0 r200156_5 r200156_6 v_nextAt_100115 v_nextCells_100115 r200156_7 r200156_8 r200156_9 r200156_10 r200156_11 := by
                  intro f49 f50
                  unfold w_X3_run_200079
                  refine ok_J7_fill_53178  (fun r200084_0 => ?_)
                  intro g200094 eg200094
                  refine ok_X3_markEdges (by omega) (by omega) (by omega) (fun r200098_0 => ?_)
                  refine ok_X3_spread (by omega) (by omega) (fun r200112_0 r200112_1 r200112_2 r200112_3 r200112_4 r200112_5 r200112_6 r200112_7 r200112_8 f51 f52 f53 => ?_)
                  exact j_200115 r200112_0 r200112_1 r200098_0 r200112_2 r200112_3 r200112_4 r200112_5 r200112_6 r200112_7 r200112_8 (by omega)
                refine ⟨fun c200071 => ?_, fun c200071 => ?_⟩
                · have f54 : x200162.toInt = p3.toInt := i_eq (a := x200162.toInt) (b := p3.toInt) rfl rfl c200071
                  exfalso; omega
                · have f55 : x200162.toInt ≠ p3.toInt := i_ne (a := x200162.toInt) (b := p3.toInt) rfl rfl c200071
                  refine ⟨fun c200076 => ?_, fun c200076 => ?_⟩
                  · have f56 : p4.toInt ≠ 0 := i_ne (a := p4.toInt) (b := 0) rfl rfl c200076
                    exact j_200115 r200156_3 r200156_4 r200144_0 r200156_5 r200156_6 r200156_7 r200156_8 r200156_9 r200156_10 r200156_11 (by omega)
                  · have f57 : p4.toInt = 0 := i_eq (a := p4.toInt) (b := 0) rfl rfl c200076
                    exact j_200079  (by omega) (by omega)
          refine ⟨fun c200123 => ?_, fun c200123 => ?_⟩
          · have f58 : r100116_0.toInt ≠ 0 := i_ne (a := r100116_0.toInt) (b := 0) rfl rfl c200123
            exact j_200139  
          · have f59 : r100116_0.toInt = 0 := i_eq (a := r100116_0.toInt) (b := 0) rfl rfl c200123
            refine ⟨fun c200128 => ?_, fun c200128 => ?_⟩
            · have f60 : l6_100051.toInt ≠ 0 := i_ne (a := l6_100051.toInt) (b := 0) rfl rfl c200128
              exact j_200168 l6_100051 a2_count_100051 a2_over_100051 a2_items_100051 r100116_1 v_stackCount_100115 v_edges_100115 v_nowAt_100051 v_nowCells_100051 v_seen_100115 v_waits_100115 v_cells_100115 v_stack_100115 v_kept_100115 (by omega) (by omega) (by omega) (by omega) (by omega)
            · have f61 : l6_100051.toInt = 0 := i_eq (a := l6_100051.toInt) (b := 0) rfl rfl c200128
              refine ⟨fun c200133 => ?_, fun c200133 => ?_⟩
              · have f62 : p4.toInt = 0 := i_eq (a := p4.toInt) (b := 0) rfl rfl c200133
                exact j_200139  
              · have f63 : p4.toInt ≠ 0 := i_ne (a := p4.toInt) (b := 0) rfl rfl c200133
                exact j_200168 l6_100051 a2_count_100051 a2_over_100051 a2_items_100051 r100116_1 v_stackCount_100115 v_edges_100115 v_nowAt_100051 v_nowCells_100051 v_seen_100115 v_waits_100115 v_cells_100115 v_stack_100115 v_kept_100115 (by omega) (by omega) (by omega) (by omega) (by omega)
        refine ⟨fun c100065 => ?_, fun c100065 => ?_⟩
        · have f64 : l6_100051.toInt ≠ 0 := i_ne (a := l6_100051.toInt) (b := 0) rfl rfl c100065
          exact j_100115 v_nextCount_100051 v_stackCount_100051 v_edges_100051 v_nextAt_100051 v_nextCells_100051 v_seen_100051 v_waits_100051 v_cells_100051 v_stack_100051 v_kept_100051 (by omega) (by omega)
        · have f65 : l6_100051.toInt = 0 := i_eq (a := l6_100051.toInt) (b := 0) rfl rfl c100065
          have j_100079 : ((l7_100051.toInt = p3.toInt) ∨ (p4.toInt = 0)) → w_X3_run_100079 p3 p4 na2_items a1_count a1_ranges a1_sort a1_value a1_low a1_high a1_withinCase a1_rangeBegin a1_rangeEnd h10 h11 h12 h13 x100024 r5_0 r5_1 r5_2 r5_3 r5_4 r5_5 Q (w_X3_run_100051 p3 p4 na2_items a1_count a1_ranges a1_sort a1_value a1_low a1_high a1_withinCase a1_rangeBegin a1_rangeEnd h10 h11 h12 h13 Q x100024 r5_0 r5_1 r5_2 r5_3 r5_4 r5_5 n_100051) l6_100051 l7_100051 a2_count_100051 a2_over_100051 a2_items_100051 v_nowCount_100051 v_nextCount_100051 v_stamp_100051 v_stackCount_100051 v_edges_100051 v_nowAt_100051 v_nowCells_100051 v_nextAt_100051 v_nextCells_100051 v_seen_100051 v_waits_100051 v_cells_100051 v_stack_100051 v_kept_100051 := by
            intro f66
            unfold w_X3_run_100079
            refine ok_J7_fill_53178  (fun r100084_0 => ?_)
            intro g100094 eg100094
            refine ok_X3_markEdges (by omega) (by omega) (by omega) (fun r100098_0 => ?_)
            refine ok_X3_spread (by omega) (by omega) (fun r100112_0 r100112_1 r100112_2 r100112_3 r100112_4 r100112_5 r100112_6 r100112_7 r100112_8 f67 f68 f69 => ?_)
            exact j_100115 r100112_0 r100112_1 r100098_0 r100112_2 r100112_3 r100112_4 r100112_5 r100112_6 r100112_7 r100112_8 (by omega) (by omega)
          refine ⟨fun c100071 => ?_, fun c100071 => ?_⟩
          · have f70 : l7_100051.toInt = p3.toInt := i_eq (a := l7_100051.toInt) (b := p3.toInt) rfl rfl c100071
            exact j_100079  (by omega)
          · have f71 : l7_100051.toInt ≠ p3.toInt := i_ne (a := l7_100051.toInt) (b := p3.toInt) rfl rfl c100071
            refine ⟨fun c100076 => ?_, fun c100076 => ?_⟩
            · have f72 : p4.toInt ≠ 0 := i_ne (a := p4.toInt) (b := 0) rfl rfl c100076
              exact j_100115 v_nextCount_100051 v_stackCount_100051 v_edges_100051 v_nextAt_100051 v_nextCells_100051 v_seen_100051 v_waits_100051 v_cells_100051 v_stack_100051 v_kept_100051 (by omega) (by omega)
            · have f73 : p4.toInt = 0 := i_eq (a := p4.toInt) (b := 0) rfl rfl c100076
              exact j_100079  (by omega)
  exact ⟨((-1) * p3.toInt + 2147483648).toNat + 1, j_100051   (((-1) * p3.toInt + 2147483648).toNat + 1) 0 p3 a2_count a2_over a2_items v_nowCount 0 x100041 v_stackCount v_edges v_nowAt v_nowCells v_nextAt v_nextCells v_seen v_waits v_cells v_stack v_kept  (by omega) (by omega) (by omega) (by omega) (by omega) (by omega) (by omega)⟩
set_option maxHeartbeats 4000000 in
theorem ok_X11_place {v_faultPlace : Int32} {Q : Int32 → Prop} (hq : ∀ (r : Int32), r.toInt = v_faultPlace.toInt → Q r) : w_X11_place v_faultPlace Q := by
  have q_t : (bz true).toInt = 1 := rfl
  have q_f : (bz false).toInt = 0 := rfl
  unfold w_X11_place
  exact hq v_faultPlace (by omega)
set_option maxHeartbeats 4000000 in
theorem ok_X11_steps {v_latestSteps : Int32} {Q : Int32 → Prop} (hq : ∀ (r : Int32), r.toInt = v_latestSteps.toInt → Q r) : w_X11_steps v_latestSteps Q := by
  have q_t : (bz true).toInt = 1 := rfl
  have q_f : (bz false).toInt = 0 := rfl
  unfold w_X11_steps
  exact hq v_latestSteps (by omega)
set_option maxHeartbeats 4000000 in
theorem ok_X11_finding {v_latestFinding : Int32} {Q : Int32 → Prop} (hq : ∀ (r : Int32), r.toInt = v_latestFinding.toInt → Q r) : w_X11_finding v_latestFinding Q := by
  have q_t : (bz true).toInt = 1 := rfl
  have q_f : (bz false).toInt = 0 := rfl
  unfold w_X11_finding
  exact hq v_latestFinding (by omega)
set_option maxHeartbeats 4000000 in
theorem ok_X11_endSearch  {Q : Int32 → Int32 → Prop} (hq : ∀ (ov_openSlot : Int32) (ov_openSubject : Int32), ov_openSlot.toInt + 1 = 0 → ov_openSubject.toInt + 1 = 0 → Q ov_openSlot ov_openSubject) : w_X11_endSearch  Q := by
  have q_t : (bz true).toInt = 1 := rfl
  have q_f : (bz false).toInt = 0 := rfl
  have q_m1 : ((-1) : Int32).toInt = (-1) := rfl
  unfold w_X11_endSearch
  exact hq (-1) (-1) (by omega) (by omega)
set_option maxHeartbeats 4000000 in
theorem ok_X11_endSearchWithSlot {p1 : Int32} {v_openSlot : Int32} {v_openSubject : Int32} {Q : Int32 → Int32 → Prop} (hq : ∀ (ov_openSlot : Int32) (ov_openSubject : Int32), ((ov_openSlot.toInt + 1 = 0) ∨ (ov_openSlot.toInt = v_openSlot.toInt)) → ((ov_openSlot.toInt = v_openSlot.toInt ∧ ov_openSubject.toInt = v_openSubject.toInt) ∨ (v_openSlot.toInt = p1.toInt ∧ ov_openSlot.toInt + 1 = 0 ∧ ov_openSubject.toInt + 1 = 0)) → Q ov_openSlot ov_openSubject) : w_X11_endSearchWithSlot p1 v_openSlot v_openSubject Q := by
  have q_t : (bz true).toInt = 1 := rfl
  have q_f : (bz false).toInt = 0 := rfl
  unfold w_X11_endSearchWithSlot
  have j_12 : ∀ (v_openSlot_12 : Int32) (v_openSubject_12 : Int32), ((v_openSlot_12.toInt + 1 = 0) ∨ (v_openSlot_12.toInt = v_openSlot.toInt)) → ((v_openSlot_12.toInt = v_openSlot.toInt ∧ v_openSubject_12.toInt = v_openSubject.toInt) ∨ (v_openSlot.toInt = p1.toInt ∧ v_openSlot_12.toInt + 1 = 0 ∧ v_openSubject_12.toInt + 1 = 0)) → w_X11_endSearchWithSlot_12 Q v_openSlot_12 v_openSubject_12 := by
    intro v_openSlot_12 v_openSubject_12 f1 f2
    unfold w_X11_endSearchWithSlot_12
    exact hq v_openSlot_12 v_openSubject_12 (by omega) (by omega)
  refine ⟨fun c5 => ?_, fun c5 => ?_⟩
  · have f3 : v_openSlot.toInt ≠ p1.toInt := i_ne (a := v_openSlot.toInt) (b := p1.toInt) rfl rfl c5
    exact j_12 v_openSlot v_openSubject (by omega) (by omega)
  · have f4 : v_openSlot.toInt = p1.toInt := i_eq (a := v_openSlot.toInt) (b := p1.toInt) rfl rfl c5
    refine ok_X11_endSearch  (fun r9_0 r9_1 f5 f6 => ?_)
    exact j_12 r9_0 r9_1 (by omega) (by omega)
set_option maxHeartbeats 4000000 in
theorem ok_X11_endSearchOver {p1 : Int32} {v_openSlot : Int32} {v_openSubject : Int32} {Q : Int32 → Int32 → Prop} (hq : ∀ (ov_openSlot : Int32) (ov_openSubject : Int32), ((ov_openSlot.toInt + 1 = 0) ∨ (ov_openSlot.toInt = v_openSlot.toInt)) → ((ov_openSlot.toInt = v_openSlot.toInt ∧ ov_openSubject.toInt = v_openSubject.toInt) ∨ (v_openSubject.toInt = p1.toInt ∧ ov_openSlot.toInt + 1 = 0 ∧ ov_openSubject.toInt + 1 = 0)) → Q ov_openSlot ov_openSubject) : w_X11_endSearchOver p1 v_openSlot v_openSubject Q := by
  have q_t : (bz true).toInt = 1 := rfl
  have q_f : (bz false).toInt = 0 := rfl
  unfold w_X11_endSearchOver
  have j_12 : ∀ (v_openSlot_12 : Int32) (v_openSubject_12 : Int32), ((v_openSlot_12.toInt + 1 = 0) ∨ (v_openSlot_12.toInt = v_openSlot.toInt)) → ((v_openSlot_12.toInt = v_openSlot.toInt ∧ v_openSubject_12.toInt = v_openSubject.toInt) ∨ (v_openSubject.toInt = p1.toInt ∧ v_openSlot_12.toInt + 1 = 0 ∧ v_openSubject_12.toInt + 1 = 0)) → w_X11_endSearchOver_12 Q v_openSlot_12 v_openSubject_12 := by
    intro v_openSlot_12 v_openSubject_12 f1 f2
    unfold w_X11_endSearchOver_12
    exact hq v_openSlot_12 v_openSubject_12 (by omega) (by omega)
  refine ⟨fun c5 => ?_, fun c5 => ?_⟩
  · have f3 : v_openSubject.toInt ≠ p1.toInt := i_ne (a := v_openSubject.toInt) (b := p1.toInt) rfl rfl c5
    exact j_12 v_openSlot v_openSubject (by omega) (by omega)
  · have f4 : v_openSubject.toInt = p1.toInt := i_eq (a := v_openSubject.toInt) (b := p1.toInt) rfl rfl c5
    refine ok_X11_endSearch  (fun r9_0 r9_1 f5 f6 => ?_)
    exact j_12 r9_0 r9_1 (by omega) (by omega)
set_option maxHeartbeats 4000000 in
theorem ok_X11_isSlot {p0 : Int32} {Q : Int32 → Prop} (hq : ∀ (r : Int32), ((r.toInt = 1 ∧ 0 ≤ p0.toInt ∧ p0.toInt ≤ 5) ∨ (r.toInt = 0)) → Q r) : w_X11_isSlot p0 Q := by
  have q_t : (bz true).toInt = 1 := rfl
  have q_f : (bz false).toInt = 0 := rfl
  have q_0 : (0 : Int32).toInt = 0 := rfl
  have q_1 : (1 : Int32).toInt = 1 := rfl
  unfold w_X11_isSlot
  have j_15 : ∀ (s0_15 : Int32), ((s0_15.toInt = 1 ∧ 0 ≤ p0.toInt ∧ p0.toInt ≤ 5) ∨ (s0_15.toInt = 0)) → w_X11_isSlot_15 Q s0_15 := by
    intro s0_15 f1
    unfold w_X11_isSlot_15
    refine ⟨i_01 (by omega) (by omega), ?_⟩
    exact hq s0_15 (by omega)
  have j_14 : ((p0.toInt + 1 ≤ 0) ∨ (0 ≤ p0.toInt ∧ 6 ≤ p0.toInt)) → w_X11_isSlot_14 Q := by
    intro f2
    unfold w_X11_isSlot_14
    exact j_15 0 (by omega)
  refine ⟨fun c1 => ?_, fun c1 => ?_⟩
  · have f3 : p0.toInt < 0 := i_lt (a := p0.toInt) (b := 0) rfl rfl c1
    exact j_14  (by omega)
  · have f4 : 0 ≤ p0.toInt := i_nlt (a := p0.toInt) (b := 0) rfl rfl c1
    refine ⟨fun c7 => ?_, fun c7 => ?_⟩
    · have f5 : 6 ≤ p0.toInt := i_le (a := 6) (b := p0.toInt) rfl rfl c7
      exact j_14  (by omega)
    · have f6 : p0.toInt < 6 := i_nle (a := 6) (b := p0.toInt) rfl rfl c7
      exact j_15 1 (by omega)
set_option maxHeartbeats 4000000 in
theorem ok_X11_isSubject {p0 : Int32} {Q : Int32 → Prop} (hq : ∀ (r : Int32), 0 ≤ r.toInt → r.toInt ≤ 1 → ((r.toInt = 0) ∨ (0 ≤ p0.toInt)) → ((r.toInt = 0) ∨ (p0.toInt ≤ 3)) → ((r.toInt = 1) ∨ (p0.toInt + 1 ≤ 0) ∨ (4 ≤ p0.toInt)) → ((r.toInt = 1 ∧ 0 ≤ p0.toInt ∧ p0.toInt ≤ 3) ∨ (r.toInt = 0)) → Q r) : w_X11_isSubject p0 Q := by
  have q_t : (bz true).toInt = 1 := rfl
  have q_f : (bz false).toInt = 0 := rfl
  have q_0 : (0 : Int32).toInt = 0 := rfl
  have q_1 : (1 : Int32).toInt = 1 := rfl
  unfold w_X11_isSubject
  have j_14 : ∀ (s0_14 : Int32), 0 ≤ s0_14.toInt → s0_14.toInt ≤ 1 → ((s0_14.toInt = 0) ∨ (0 ≤ p0.toInt)) → ((s0_14.toInt = 0) ∨ (p0.toInt ≤ 3)) → ((s0_14.toInt = 1) ∨ (p0.toInt + 1 ≤ 0) ∨ (4 ≤ p0.toInt)) → ((s0_14.toInt = 1 ∧ 0 ≤ p0.toInt ∧ p0.toInt ≤ 3) ∨ (s0_14.toInt = 0)) → w_X11_isSubject_14 Q s0_14 := by
    intro s0_14 f1 f2 f3 f4 f5 f6
    unfold w_X11_isSubject_14
    refine ⟨i_01 (by omega) (by omega), ?_⟩
    exact hq s0_14 (by omega) (by omega) (by omega) (by omega) (by omega) (by omega)
  have j_13 : ((p0.toInt + 1 ≤ 0) ∨ (0 ≤ p0.toInt ∧ 4 ≤ p0.toInt)) → w_X11_isSubject_13 Q := by
    intro f7
    unfold w_X11_isSubject_13
    exact j_14 0 (by omega) (by omega) (by omega) (by omega) (by omega) (by omega)
  refine ⟨fun c1 => ?_, fun c1 => ?_⟩
  · have f8 : p0.toInt < 0 := i_lt (a := p0.toInt) (b := 0) rfl rfl c1
    exact j_13  (by omega)
  · have f9 : 0 ≤ p0.toInt := i_nlt (a := p0.toInt) (b := 0) rfl rfl c1
    refine ⟨fun c6 => ?_, fun c6 => ?_⟩
    · have f10 : 4 ≤ p0.toInt := i_le (a := 4) (b := p0.toInt) rfl rfl c6
      exact j_13  (by omega)
    · have f11 : p0.toInt < 4 := i_nle (a := 4) (b := p0.toInt) rfl rfl c6
      exact j_14 1 (by omega) (by omega) (by omega) (by omega) (by omega) (by omega)
set_option maxHeartbeats 4000000 in
theorem ok_X11_isMachine {p0 : Int32} {Q : Int32 → Prop} (hq : ∀ (r : Int32), ((r.toInt = 1 ∧ 0 ≤ p0.toInt ∧ p0.toInt ≤ 2) ∨ (r.toInt = 0)) → Q r) : w_X11_isMachine p0 Q := by
  have q_t : (bz true).toInt = 1 := rfl
  have q_f : (bz false).toInt = 0 := rfl
  have q_0 : (0 : Int32).toInt = 0 := rfl
  have q_1 : (1 : Int32).toInt = 1 := rfl
  unfold w_X11_isMachine
  have j_14 : ∀ (s0_14 : Int32), ((s0_14.toInt = 1 ∧ 0 ≤ p0.toInt ∧ p0.toInt ≤ 2) ∨ (s0_14.toInt = 0)) → w_X11_isMachine_14 Q s0_14 := by
    intro s0_14 f1
    unfold w_X11_isMachine_14
    refine ⟨i_01 (by omega) (by omega), ?_⟩
    exact hq s0_14 (by omega)
  have j_13 : ((p0.toInt + 1 ≤ 0) ∨ (0 ≤ p0.toInt ∧ 3 ≤ p0.toInt)) → w_X11_isMachine_13 Q := by
    intro f2
    unfold w_X11_isMachine_13
    exact j_14 0 (by omega)
  refine ⟨fun c1 => ?_, fun c1 => ?_⟩
  · have f3 : p0.toInt < 0 := i_lt (a := p0.toInt) (b := 0) rfl rfl c1
    exact j_13  (by omega)
  · have f4 : 0 ≤ p0.toInt := i_nlt (a := p0.toInt) (b := 0) rfl rfl c1
    refine ⟨fun c6 => ?_, fun c6 => ?_⟩
    · have f5 : 2 < p0.toInt := i_lt (a := 2) (b := p0.toInt) rfl rfl c6
      exact j_13  (by omega)
    · have f6 : p0.toInt ≤ 2 := i_nlt (a := 2) (b := p0.toInt) rfl rfl c6
      exact j_14 1 (by omega)
set_option maxHeartbeats 4000000 in
theorem ok_X11_byteOf {p0 : Int64} {p1 : Int32} {Q : Int32 → Prop} (hq : ∀ (r : Int32), 0 ≤ r.toInt → r.toInt ≤ 255 → Q r) : w_X11_byteOf p0 p1 Q := by
  have q_t : (bz true).toInt = 1 := rfl
  have q_f : (bz false).toInt = 0 := rfl
  unfold w_X11_byteOf
  intro x4 ex4
  intro y5 ey5
  intro x6 ex6
  intro x10 ex10
  have f1 : (0 ≤ x10.toInt ∧ x10.toInt ≤ 255) := i_andr ex10 (by decide)
  exact hq x10 (by omega) (by omega)
set_option maxHeartbeats 4000000 in
theorem ok_X11_tellRow {p1 : Int32} {v_outRow_items : Nat → Int32} {nv_outRow_items : Nat} {v_draft_count : Int32} {v_draft_items : Nat → Int32} {nv_draft_items : Nat} {Q : Bool → Int32 → Bool → (Nat → Int32) → Prop} (a0 : (nv_outRow_items : Int) ≤ 1000) (a1 : 0 ≤ v_draft_count.toInt) (a2 : v_draft_count.toInt ≤ (nv_draft_items : Int)) (a3 : (nv_draft_items : Int) ≤ 1000) (a4 : 0 ≤ p1.toInt) (a5 : p1.toInt ≤ 1) (hq : ∀ (ov_outHasNumbers : Bool) (ov_outRow_count : Int32) (ov_outRow_over : Bool) (ov_outRow_items : Nat → Int32), 0 ≤ ov_outRow_count.toInt + 1 → 0 ≤ ov_outRow_count.toInt → ov_outRow_count.toInt ≤ 1000 → ov_outRow_count.toInt ≤ (nv_outRow_items : Int) → (bz ov_outHasNumbers).toInt = p1.toInt → Q ov_outHasNumbers ov_outRow_count ov_outRow_over ov_outRow_items) : w_X11_tellRow p1 v_outRow_items nv_outRow_items v_draft_count v_draft_items nv_draft_items Q := by
  have q_t : (bz true).toInt = 1 := rfl
  have q_f : (bz false).toInt = 0 := rfl
  unfold w_X11_tellRow
  refine ok_X7_take (by omega) (by omega) (by omega) (by omega) (fun r8_0 r8_1 r8_2 f1 f2 f3 f4 => ?_)
  refine ⟨i_01 (by omega) (by omega), ?_⟩
  intro b13 eb13
  have f5 : (bz b13).toInt = p1.toInt := by rw [← eb13]
  exact hq b13 r8_0 r8_1 r8_2 (by omega) (by omega) (by omega) (by omega) (by omega)
set_option maxHeartbeats 4000000 in
theorem ok_X11_isStepCount {p0 : Int32} {Q : Int32 → Prop} (hq : ∀ (r : Int32), ((r.toInt = 1 ∧ 1 ≤ p0.toInt ∧ p0.toInt ≤ 3000) ∨ (r.toInt = 0)) → Q r) : w_X11_isStepCount p0 Q := by
  have q_t : (bz true).toInt = 1 := rfl
  have q_f : (bz false).toInt = 0 := rfl
  have q_0 : (0 : Int32).toInt = 0 := rfl
  have q_1 : (1 : Int32).toInt = 1 := rfl
  unfold w_X11_isStepCount
  have j_17 : ∀ (s0_17 : Int32), ((s0_17.toInt = 1 ∧ 1 ≤ p0.toInt ∧ p0.toInt ≤ 3000) ∨ (s0_17.toInt = 0)) → w_X11_isStepCount_17 Q s0_17 := by
    intro s0_17 f1
    unfold w_X11_isStepCount_17
    refine ⟨i_01 (by omega) (by omega), ?_⟩
    exact hq s0_17 (by omega)
  have j_16 : ((p0.toInt ≤ 0) ∨ (1 ≤ p0.toInt ∧ 3001 ≤ p0.toInt)) → w_X11_isStepCount_16 Q := by
    intro f2
    unfold w_X11_isStepCount_16
    exact j_17 0 (by omega)
  refine ⟨fun c2 => ?_, fun c2 => ?_⟩
  · have f3 : p0.toInt < 1 := i_lt (a := p0.toInt) (b := 1) rfl rfl c2
    exact j_16  (by omega)
  · have f4 : 1 ≤ p0.toInt := i_nlt (a := p0.toInt) (b := 1) rfl rfl c2
    refine ⟨fun c9 => ?_, fun c9 => ?_⟩
    · have f5 : 3000 < p0.toInt := i_lt (a := 3000) (b := p0.toInt) rfl rfl c9
      exact j_16  (by omega)
    · have f6 : p0.toInt ≤ 3000 := i_nlt (a := 3000) (b := p0.toInt) rfl rfl c9
      exact j_17 1 (by omega)
set_option maxHeartbeats 4000000 in
theorem ok_X11_refusalOfSubject {p1 : Int32} {v_latestFinding : Int32} {Q : Int32 → Int32 → Prop} (hq : ∀ (r : Int32) (ov_latestFinding : Int32), ((r.toInt + 3 = 0 ∧ ov_latestFinding.toInt = 2) ∨ (r.toInt + 2 = 0 ∧ ov_latestFinding.toInt = v_latestFinding.toInt)) → ((r.toInt + 2 ≠ 0) ∨ (p1.toInt + 1 ≤ 0) ∨ (4 ≤ p1.toInt)) → ((r.toInt + 3 ≠ 0) ∨ (0 ≤ p1.toInt)) → ((r.toInt + 3 ≠ 0) ∨ (p1.toInt ≤ 3)) → Q r ov_latestFinding) : w_X11_refusalOfSubject p1 v_latestFinding Q := by
  have q_t : (bz true).toInt = 1 := rfl
  have q_f : (bz false).toInt = 0 := rfl
  have q_m3 : ((-3) : Int32).toInt = (-3) := rfl
  have q_m2 : ((-2) : Int32).toInt = (-2) := rfl
  have q_2 : (2 : Int32).toInt = 2 := rfl
  unfold w_X11_refusalOfSubject
  refine ok_X11_isSubject  (fun r1 f1 f2 f3 f4 f5 f6 => ?_)
  refine ⟨fun c4 => ?_, fun c4 => ?_⟩
  · have f7 : r1.toInt ≠ 0 := i_ne (a := r1.toInt) (b := 0) rfl rfl c4
    exact hq (-3) 2 (by omega) (by omega) (by omega) (by omega)
  · have f8 : r1.toInt = 0 := i_eq (a := r1.toInt) (b := 0) rfl rfl c4
    exact hq (-2) v_latestFinding (by omega) (by omega) (by omega) (by omega)
set_option maxHeartbeats 4000000 in
theorem ok_X11_isTold {p0 : Int32} {p1 : Int32} {Q : Int32 → Prop} (hq : ∀ (r : Int32), 0 ≤ r.toInt → r.toInt ≤ 1 → Q r) : w_X11_isTold p0 p1 Q := by
  have q_t : (bz true).toInt = 1 := rfl
  have q_f : (bz false).toInt = 0 := rfl
  have q_0 : (0 : Int32).toInt = 0 := rfl
  have q_1 : (1 : Int32).toInt = 1 := rfl
  unfold w_X11_isTold
  intro x2 ex2
  intro x4 ex4
  have f1 : (0 ≤ x4.toInt ∧ x4.toInt ≤ 1) := i_andr ex4 (by decide)
  have j_14 : ∀ (s0_14 : Int32), ((s0_14.toInt = 0) ∨ (s0_14.toInt = 1 ∧ x4.toInt = 1)) → w_X11_isTold_14 Q s0_14 := by
    intro s0_14 f2
    unfold w_X11_isTold_14
    refine ⟨i_01 (by omega) (by omega), ?_⟩
    exact hq s0_14 (by omega) (by omega)
  refine ⟨fun c6 => ?_, fun c6 => ?_⟩
  · have f3 : x4.toInt ≠ 1 := i_ne (a := x4.toInt) (b := 1) rfl rfl c6
    exact j_14 0 (by omega)
  · have f4 : x4.toInt = 1 := i_eq (a := x4.toInt) (b := 1) rfl rfl c6
    exact j_14 1 (by omega)
set_option maxHeartbeats 4000000 in
theorem ok_X11_refusalByMachine {p1 : Int32} {a0_count : Int32} {a0_sort : Nat → Int32} {a0_end : Nat → Int32} {a0_value : Nat → Int32} {a0_low : Nat → Int32} {a0_high : Nat → Int32} {a0_size : Nat → Int32} {a0_positions : Nat → Int32} {a0_mayBeEmpty : Nat → Bool} {Q : Int32 → Prop} (a0 : 0 ≤ a0_count.toInt) (a1 : a0_count.toInt ≤ 256) (b0 : rp (fun k v => k < v ∧ v ≤ 256) a0_end 0 a0_count.toInt) (hq : ∀ (r : Int32), 0 ≤ r.toInt + 7 → r.toInt ≤ 0 → Q r) : w_X11_refusalByMachine p1 a0_count a0_sort a0_end a0_value a0_low a0_high a0_size a0_positions a0_mayBeEmpty Q := by
  have q_t : (bz true).toInt = 1 := rfl
  have q_f : (bz false).toInt = 0 := rfl
  have q_m7 : ((-7) : Int32).toInt = (-7) := rfl
  have q_m6 : ((-6) : Int32).toInt = (-6) := rfl
  have q_0 : (0 : Int32).toInt = 0 := rfl
  unfold w_X11_refusalByMachine
  refine ok_X10_isTakenBy (by omega) (by omega) (rp_mono b0 (by omega) (by omega)) (fun r2 f1 => ?_)
  refine ⟨fun c5 => ?_, fun c5 => ?_⟩
  · have f2 : r2.toInt ≠ 0 := i_ne (a := r2.toInt) (b := 0) rfl rfl c5
    refine ok_X10_isTooLargeFor (by omega) (by omega) (fun r13 f3 f4 f5 => ?_)
    have j_25 : ∀ (s0_25 : Int32), ((s0_25.toInt = 0 ∧ r13.toInt = 0) ∨ (s0_25.toInt + 7 = 0)) → w_X11_refusalByMachine_25 Q s0_25 := by
      intro s0_25 f6
      unfold w_X11_refusalByMachine_25
      exact hq s0_25 (by omega) (by omega)
    refine ⟨fun c16 => ?_, fun c16 => ?_⟩
    · have f7 : r13.toInt = 0 := i_eq (a := r13.toInt) (b := 0) rfl rfl c16
      exact j_25 0 (by omega)
    · have f8 : r13.toInt ≠ 0 := i_ne (a := r13.toInt) (b := 0) rfl rfl c16
      exact j_25 (-7) (by omega)
  · have f9 : r2.toInt = 0 := i_eq (a := r2.toInt) (b := 0) rfl rfl c5
    exact hq (-6) (by omega) (by omega)
set_option maxHeartbeats 4000000 in
theorem ok_X11_capturesOfFound {v_found_count : Int32} {Q : Int32 → Prop} (a0 : 0 ≤ v_found_count.toInt) (hq : ∀ (r : Int32), ((0 ≤ r.toInt + 1 ∧ 2 * r.toInt + 2 ≤ v_found_count.toInt ∧ v_found_count.toInt ≤ 2 * r.toInt + 3) ∨ (r.toInt = 0 ∧ v_found_count.toInt = 0)) → Q r) : w_X11_capturesOfFound v_found_count Q := by
  have q_t : (bz true).toInt = 1 := rfl
  have q_f : (bz false).toInt = 0 := rfl
  have q_0 : (0 : Int32).toInt = 0 := rfl
  unfold w_X11_capturesOfFound
  have j_25 : ∀ (s0_25 : Int32), ((0 ≤ s0_25.toInt + 1 ∧ 2 * s0_25.toInt + 2 ≤ v_found_count.toInt ∧ v_found_count.toInt ≤ 2 * s0_25.toInt + 3) ∨ (s0_25.toInt = 0 ∧ v_found_count.toInt = 0)) → w_X11_capturesOfFound_25 Q s0_25 := by
    intro s0_25 f1
    unfold w_X11_capturesOfFound_25
    exact hq s0_25 (by omega)
  refine ⟨fun c7 => ?_, fun c7 => ?_⟩
  · have f2 : v_found_count.toInt ≠ 0 := i_ne (a := v_found_count.toInt) (b := 0) rfl rfl c7
    intro x22 ex22
    have f3 : (0 ≤ x22.toInt ∧ 2 * x22.toInt ≤ v_found_count.toInt ∧ v_found_count.toInt ≤ 2 * x22.toInt + 1) := by have h9 := i_div (b := 2) ex22 rfl (by decide) (by omega); omega
    intro x24 ex24
    have f4 : x24.toInt = x22.toInt - 1 := i_sub (a := x22.toInt) (b := 1) ex24 rfl rfl (by omega) (by have h8_0 := i_rng v_found_count; have h8_1 := i_rng x22; omega)
    exact j_25 x24 (by omega)
  · have f5 : v_found_count.toInt = 0 := i_eq (a := v_found_count.toInt) (b := 0) rfl rfl c7
    exact j_25 0 (by omega)
set_option maxHeartbeats 4000000 in
theorem ok_X11_patternIn {p1 : Int32} {v_latestFinding : Int32} {v_patterns : Nat → Option Nat} {v_patterns_p1_there : Bool} {h2 : Nat} {Q : Int32 → Int32 → Prop} (v0 : 0 ≤ p1.toInt → p1.toInt < 6 → v_patterns p1.toNatClampNeg = some h2) (hq : ∀ (r : Int32) (ov_latestFinding : Int32), 0 ≤ r.toInt → r.toInt ≤ 1 → Q r ov_latestFinding) : w_X11_patternIn p1 v_latestFinding v_patterns v_patterns_p1_there h2 Q := by
  have q_t : (bz true).toInt = 1 := rfl
  have q_f : (bz false).toInt = 0 := rfl
  have q_0 : (0 : Int32).toInt = 0 := rfl
  have q_1 : (1 : Int32).toInt = 1 := rfl
  have q_2 : (2 : Int32).toInt = 2 := rfl
  unfold w_X11_patternIn
  refine ok_X11_isSlot  (fun r1 f501 => ?_)
  refine ⟨fun c4 => ?_, fun c4 => ?_⟩
  · have f502 : r1.toInt ≠ 0 := i_ne (a := r1.toInt) (b := 0) rfl rfl c4
    refine ⟨i_in (by omega) (by omega), ?_⟩
    refine ⟨v0 (by omega) (by omega), ?_⟩
    have f503 : (0 ≤ (bz v_patterns_p1_there).toInt ∧ (bz v_patterns_p1_there).toInt ≤ 1) := i_bzr v_patterns_p1_there
    refine ⟨fun c18 => ?_, fun c18 => ?_⟩
    · have f504 : (bz v_patterns_p1_there).toInt ≠ 0 := i_ne (a := (bz v_patterns_p1_there).toInt) (b := 0) rfl rfl c18
      refine ⟨i_in (by omega) (by omega), ?_⟩
      refine ⟨v0 (by omega) (by omega), ?_⟩
      exact hq 1 v_latestFinding (by omega) (by omega)
    · have f505 : (bz v_patterns_p1_there).toInt = 0 := i_eq (a := (bz v_patterns_p1_there).toInt) (b := 0) rfl rfl c18
      exact hq 0 2 (by omega) (by omega)
  · have f506 : r1.toInt = 0 := i_eq (a := r1.toInt) (b := 0) rfl rfl c4
    exact hq 0 v_latestFinding (by omega) (by omega)
set_option maxHeartbeats 4000000 in
theorem ok_X11_forget {p1 : Int32} {v_latestFinding : Int32} {v_openSlot : Int32} {v_openSubject : Int32} {v_patterns : Nat → Option Nat} {v_patterns_p1_there : Bool} {h2 : Nat} {Q : Int32 → Int32 → Int32 → Int32 → Bool → Prop} (v0 : 0 ≤ p1.toInt → p1.toInt < 6 → v_patterns p1.toNatClampNeg = some h2) (hq : ∀ (r : Int32) (ov_latestFinding : Int32) (ov_openSlot : Int32) (ov_openSubject : Int32) (ov_patterns_p1_there : Bool), ((r.toInt + 2 = 0 ∧ ov_openSlot.toInt = v_openSlot.toInt ∧ ov_openSubject.toInt = v_openSubject.toInt ∧ (bz ov_patterns_p1_there).toInt = (bz v_patterns_p1_there).toInt) ∨ (r.toInt = 1 ∧ (bz ov_patterns_p1_there).toInt = 0)) → ((ov_openSlot.toInt + 1 = 0) ∨ (ov_openSlot.toInt = v_openSlot.toInt)) → Q r ov_latestFinding ov_openSlot ov_openSubject ov_patterns_p1_there) : w_X11_forget p1 v_latestFinding v_openSlot v_openSubject v_patterns v_patterns_p1_there h2 Q := by
  have q_t : (bz true).toInt = 1 := rfl
  have q_f : (bz false).toInt = 0 := rfl
  have q_m2 : ((-2) : Int32).toInt = (-2) := rfl
  have q_1 : (1 : Int32).toInt = 1 := rfl
  unfold w_X11_forget
  refine ok_X11_patternIn v0 (fun r2 r2_0 f1 f2 => ?_)
  refine ⟨fun c2 => ?_, fun c2 => ?_⟩
  · have f3 : r2.toInt = 0 := i_eq (a := r2.toInt) (b := 0) rfl rfl c2
    exact hq (-2) r2_0 v_openSlot v_openSubject v_patterns_p1_there (by omega) (by omega)
  · have f4 : r2.toInt ≠ 0 := i_ne (a := r2.toInt) (b := 0) rfl rfl c2
    refine ok_X11_endSearchWithSlot  (fun r200020_0 r200020_1 f5 f6 => ?_)
    exact hq 1 r2_0 r200020_0 r200020_1 false (by omega) (by omega)
set_option maxHeartbeats 4000000 in
theorem ok_X11_dead {p1 : Int32} {p2 : Int32} {v_latestFinding : Int32} {v_patterns : Nat → Option Nat} {v_patterns_p1_there : Bool} {v_patterns_p1_count : Int32} {v_patterns_p1_ranges : Int32} {v_patterns_p1_sort : Nat → Int32} {v_patterns_p1_holder : Nat → Int32} {v_patterns_p1_end : Nat → Int32} {v_patterns_p1_before : Nat → Int32} {v_patterns_p1_parts : Nat → Int32} {v_patterns_p1_value : Nat → Int32} {v_patterns_p1_low : Nat → Int32} {v_patterns_p1_high : Nat → Int32} {v_patterns_p1_rangeBegin : Nat → Int32} {v_patterns_p1_rangeEnd : Nat → Int32} {h2 : Nat} {Q : Int32 → Int32 → Prop} (a0 : 0 ≤ v_patterns_p1_count.toInt) (a1 : v_patterns_p1_count.toInt ≤ 256) (a2 : 0 ≤ v_patterns_p1_ranges.toInt) (a3 : v_patterns_p1_ranges.toInt ≤ 512) (b0 : rp (fun k v => k < v ∧ v ≤ 256) v_patterns_p1_end 0 v_patterns_p1_count.toInt) (b1 : rp (fun k v => v < k ∧ -1 ≤ v) v_patterns_p1_holder 0 v_patterns_p1_count.toInt) (b2 : rp (fun k v => v < k ∧ -1 ≤ v) v_patterns_p1_before 0 v_patterns_p1_count.toInt) (v0 : 0 ≤ p1.toInt → p1.toInt < 6 → v_patterns p1.toNatClampNeg = some h2) (hq : ∀ (r : Int32) (ov_latestFinding : Int32), 0 ≤ r.toInt + 4 → r.toInt ≤ 255 → Q r ov_latestFinding) : w_X11_dead p1 p2 v_latestFinding v_patterns v_patterns_p1_there v_patterns_p1_count v_patterns_p1_ranges v_patterns_p1_sort v_patterns_p1_holder v_patterns_p1_end v_patterns_p1_before v_patterns_p1_parts v_patterns_p1_value v_patterns_p1_low v_patterns_p1_high v_patterns_p1_rangeBegin v_patterns_p1_rangeEnd h2 Q := by
  have q_t : (bz true).toInt = 1 := rfl
  have q_f : (bz false).toInt = 0 := rfl
  have q_m4 : ((-4) : Int32).toInt = (-4) := rfl
  have q_m2 : ((-2) : Int32).toInt = (-2) := rfl
  unfold w_X11_dead
  refine ok_X11_patternIn v0 (fun r2 r2_0 f1 f2 => ?_)
  refine ⟨fun c2 => ?_, fun c2 => ?_⟩
  · have f3 : r2.toInt = 0 := i_eq (a := r2.toInt) (b := 0) rfl rfl c2
    exact hq (-2) r2_0 (by omega) (by omega)
  · have f4 : r2.toInt ≠ 0 := i_ne (a := r2.toInt) (b := 0) rfl rfl c2
    have j_200027 : ∀ (s0_200027 : Int32), ((0 ≤ p2.toInt ∧ 0 ≤ s0_200027.toInt + 1 ∧ s0_200027.toInt ≤ 255) ∨ (s0_200027.toInt + 4 = 0 ∧ p2.toInt + 1 ≤ 0)) → w_X11_dead_200027 Q s0_200027 r2_0 := by
      intro s0_200027 f5
      unfold w_X11_dead_200027
      exact hq s0_200027 r2_0 (by omega) (by omega)
    refine ⟨fun c200014 => ?_, fun c200014 => ?_⟩
    · have f6 : 0 ≤ p2.toInt := i_le (a := 0) (b := p2.toInt) rfl rfl c200014
      refine ok_X10_deadRow (by omega) (by omega) (by omega) (by omega) (rp_mono b0 (by omega) (by omega)) (rp_mono b1 (by omega) (by omega)) (rp_mono b2 (by omega) (by omega)) (fun r200024 f7 f8 => ?_)
      exact j_200027 r200024 (by omega)
    · have f9 : p2.toInt < 0 := i_nle (a := 0) (b := p2.toInt) rfl rfl c200014
      exact j_200027 (-4) (by omega)
set_option maxHeartbeats 4000000 in
theorem ok_X11_sortThatTells {p0 : Int32} {Q : Int32 → Prop} (hq : ∀ (r : Int32), 0 ≤ r.toInt → r.toInt ≤ 9 → Q r) : w_X11_sortThatTells p0 Q := by
  have q_t : (bz true).toInt = 1 := rfl
  have q_f : (bz false).toInt = 0 := rfl
  have q_0 : (0 : Int32).toInt = 0 := rfl
  have q_2 : (2 : Int32).toInt = 2 := rfl
  have q_3 : (3 : Int32).toInt = 3 := rfl
  have q_4 : (4 : Int32).toInt = 4 := rfl
  have q_7 : (7 : Int32).toInt = 7 := rfl
  have q_8 : (8 : Int32).toInt = 8 := rfl
  have q_9 : (9 : Int32).toInt = 9 := rfl
  unfold w_X11_sortThatTells
  refine ⟨fun c1_0 => ?_, fun c1_1 => ?_, fun c1_2 => ?_, fun c1_3 => ?_, fun c1_4 => ?_, fun c1_5 => ?_, ?_⟩
  · have f1 : p0.toInt = 10 := i_eq (a := p0.toInt) (b := 10) rfl rfl c1_0
    exact hq 0 (by omega) (by omega)
  · have f2 : p0.toInt = 11 := i_eq (a := p0.toInt) (b := 11) rfl rfl c1_1
    exact hq 2 (by omega) (by omega)
  · have f3 : p0.toInt = 12 := i_eq (a := p0.toInt) (b := 12) rfl rfl c1_2
    exact hq 3 (by omega) (by omega)
  · have f4 : p0.toInt = 13 := i_eq (a := p0.toInt) (b := 13) rfl rfl c1_3
    exact hq 4 (by omega) (by omega)
  · have f5 : p0.toInt = 14 := i_eq (a := p0.toInt) (b := 14) rfl rfl c1_4
    exact hq 8 (by omega) (by omega)
  · have f6 : p0.toInt = 15 := i_eq (a := p0.toInt) (b := 15) rfl rfl c1_5
    exact hq 9 (by omega) (by omega)
  · intro c1_0 c1_1 c1_2 c1_3 c1_4 c1_5
    have f7 : p0.toInt ≠ 10 := i_ne (a := p0.toInt) (b := 10) rfl rfl c1_0
    have f8 : p0.toInt ≠ 11 := i_ne (a := p0.toInt) (b := 11) rfl rfl c1_1
    have f9 : p0.toInt ≠ 12 := i_ne (a := p0.toInt) (b := 12) rfl rfl c1_2
    have f10 : p0.toInt ≠ 13 := i_ne (a := p0.toInt) (b := 13) rfl rfl c1_3
    have f11 : p0.toInt ≠ 14 := i_ne (a := p0.toInt) (b := 14) rfl rfl c1_4
    have f12 : p0.toInt ≠ 15 := i_ne (a := p0.toInt) (b := 15) rfl rfl c1_5
    exact hq 7 (by omega) (by omega)
set_option maxHeartbeats 4000000 in
theorem ok_X11_subjectAt {p1 : Int32} {v_subjects : Nat → Option Nat} {v_subjects_p1_there : Bool} {h2 : Nat} {Q : Int32 → Prop} (v0 : 0 ≤ p1.toInt → p1.toInt < 4 → v_subjects p1.toNatClampNeg = some h2) (hq : ∀ (r : Int32), 0 ≤ r.toInt → r.toInt ≤ 1 → ((r.toInt = 0) ∨ (0 ≤ p1.toInt)) → ((r.toInt = 0) ∨ (p1.toInt ≤ 3)) → ((r.toInt = 0) ∨ ((bz v_subjects_p1_there).toInt = 1)) → ((r.toInt = 1) ∨ (p1.toInt + 1 ≤ 0) ∨ (4 ≤ p1.toInt) ∨ ((bz v_subjects_p1_there).toInt = 0)) → ((r.toInt = 1) ∨ (r.toInt = 0)) → Q r) : w_X11_subjectAt p1 v_subjects v_subjects_p1_there h2 Q := by
  have q_t : (bz true).toInt = 1 := rfl
  have q_f : (bz false).toInt = 0 := rfl
  have q_0 : (0 : Int32).toInt = 0 := rfl
  have q_1 : (1 : Int32).toInt = 1 := rfl
  unfold w_X11_subjectAt
  refine ok_X11_isSubject  (fun r1 f1 f2 f3 f4 f5 f6 => ?_)
  have j_29 : ∀ (s0_29 : Int32), 0 ≤ s0_29.toInt → s0_29.toInt ≤ 1 → ((s0_29.toInt = 0) ∨ (0 ≤ p1.toInt)) → ((s0_29.toInt = 0) ∨ (p1.toInt ≤ 3)) → ((s0_29.toInt = 0) ∨ ((bz v_subjects_p1_there).toInt = 1)) → ((s0_29.toInt = 1) ∨ (p1.toInt + 1 ≤ 0) ∨ (4 ≤ p1.toInt) ∨ ((bz v_subjects_p1_there).toInt = 0)) → ((s0_29.toInt = 1) ∨ (s0_29.toInt = 0)) → w_X11_subjectAt_29 Q s0_29 := by
    intro s0_29 f7 f8 f9 f10 f11 f12 f13
    unfold w_X11_subjectAt_29
    exact hq s0_29 (by omega) (by omega) (by omega) (by omega) (by omega) (by omega) (by omega)
  have j_28 : ((p1.toInt + 1 ≤ 0) ∨ (4 ≤ p1.toInt) ∨ ((bz v_subjects_p1_there).toInt = 0)) → w_X11_subjectAt_28 Q := by
    intro f14
    unfold w_X11_subjectAt_28
    exact j_29 0 (by omega) (by omega) (by omega) (by omega) (by omega) (by omega) (by omega)
  refine ⟨fun c4 => ?_, fun c4 => ?_⟩
  · have f15 : r1.toInt = 0 := i_eq (a := r1.toInt) (b := 0) rfl rfl c4
    exact j_28  (by omega)
  · have f16 : r1.toInt ≠ 0 := i_ne (a := r1.toInt) (b := 0) rfl rfl c4
    refine ⟨i_in (by omega) (by omega), ?_⟩
    refine ⟨v0 (by omega) (by omega), ?_⟩
    have f17 : (0 ≤ (bz v_subjects_p1_there).toInt ∧ (bz v_subjects_p1_there).toInt ≤ 1) := i_bzr v_subjects_p1_there
    refine ⟨fun c16 => ?_, fun c16 => ?_⟩
    · have f18 : (bz v_subjects_p1_there).toInt = 0 := i_eq (a := (bz v_subjects_p1_there).toInt) (b := 0) rfl rfl c16
      exact j_28  (by omega)
    · have f19 : (bz v_subjects_p1_there).toInt ≠ 0 := i_ne (a := (bz v_subjects_p1_there).toInt) (b := 0) rfl rfl c16
      refine ⟨i_in (by omega) (by omega), ?_⟩
      refine ⟨v0 (by omega) (by omega), ?_⟩
      exact j_29 1 (by omega) (by omega) (by omega) (by omega) (by omega) (by omega) (by omega)
set_option maxHeartbeats 4000000 in
theorem ok_X11_keepSpans {p1 : Int32} {v_spans_count : Int32} {v_spans_items : Nat → Int32} {nv_spans_items : Nat} {v_found_count : Int32} {v_found_over : Bool} {v_found_items : Nat → Int32} {nv_found_items : Nat} {Q : Int32 → Int32 → Bool → (Nat → Int32) → Prop} (a0 : 0 ≤ v_spans_count.toInt) (a1 : v_spans_count.toInt ≤ (nv_spans_items : Int)) (a2 : (nv_spans_items : Int) ≤ 1000) (a3 : 0 ≤ v_found_count.toInt) (a4 : v_found_count.toInt ≤ (nv_found_items : Int)) (a5 : (nv_found_items : Int) ≤ 1000) (hq : ∀ (r : Int32) (ov_found_count : Int32) (ov_found_over : Bool) (ov_found_items : Nat → Int32), r.toInt = p1.toInt → 0 ≤ ov_found_count.toInt → ov_found_count.toInt ≤ (nv_found_items : Int) → Q r ov_found_count ov_found_over ov_found_items) : w_X11_keepSpans p1 v_spans_count v_spans_items nv_spans_items v_found_count v_found_over v_found_items nv_found_items Q := by
  have q_t : (bz true).toInt = 1 := rfl
  have q_f : (bz false).toInt = 0 := rfl
  unfold w_X11_keepSpans
  have j_30 : ∀ (v_found_count_30 : Int32) (v_found_over_30 : Bool) (v_found_items_30 : Nat → Int32), 0 ≤ v_found_count_30.toInt → v_found_count_30.toInt ≤ (nv_found_items : Int) → ((v_found_count_30.toInt = v_found_count.toInt) ∨ (p1.toInt = 0 ∧ v_found_count_30.toInt = 0) ∨ (p1.toInt = 1 ∧ 0 ≤ v_found_count_30.toInt + 1 ∧ 0 ≤ v_found_count_30.toInt ∧ v_found_count_30.toInt ≤ 1000 ∧ v_found_count_30.toInt ≤ (nv_found_items : Int))) → w_X11_keepSpans_30 p1 Q v_found_count_30 v_found_over_30 v_found_items_30 := by
    intro v_found_count_30 v_found_over_30 v_found_items_30 f1 f2 f3
    unfold w_X11_keepSpans_30
    exact hq p1 v_found_count_30 v_found_over_30 v_found_items_30 (by omega) (by omega) (by omega)
  refine ⟨fun c2 => ?_, fun c2 => ?_⟩
  · have f4 : p1.toInt ≠ 1 := i_ne (a := p1.toInt) (b := 1) rfl rfl c2
    refine ⟨fun c20 => ?_, fun c20 => ?_⟩
    · have f5 : p1.toInt ≠ 0 := i_ne (a := p1.toInt) (b := 0) rfl rfl c20
      exact j_30 v_found_count v_found_over v_found_items (by omega) (by omega) (by omega)
    · have f6 : p1.toInt = 0 := i_eq (a := p1.toInt) (b := 0) rfl rfl c20
      refine ok_X7_empty  (fun r27_0 r27_1 f7 f8 => ?_)
      exact j_30 r27_0 r27_1 v_found_items (by omega) (by omega) (by omega)
  · have f9 : p1.toInt = 1 := i_eq (a := p1.toInt) (b := 1) rfl rfl c2
    refine ok_X7_take (by omega) (by omega) (by omega) (by omega) (fun r13_0 r13_1 r13_2 f10 f11 f12 f13 => ?_)
    exact j_30 r13_0 r13_1 r13_2 (by omega) (by omega) (by omega)
set_option maxHeartbeats 4000000 in
theorem ok_X11_isSmall {p0 : Int32} {Q : Int32 → Prop} (hq : ∀ (r : Int32), ((r.toInt = 1 ∧ 97 ≤ p0.toInt ∧ p0.toInt ≤ 122) ∨ (r.toInt = 0)) → Q r) : w_X11_isSmall p0 Q := by
  have q_t : (bz true).toInt = 1 := rfl
  have q_f : (bz false).toInt = 0 := rfl
  have q_0 : (0 : Int32).toInt = 0 := rfl
  have q_1 : (1 : Int32).toInt = 1 := rfl
  unfold w_X11_isSmall
  have j_17 : ∀ (s0_17 : Int32), ((s0_17.toInt = 1 ∧ 97 ≤ p0.toInt ∧ p0.toInt ≤ 122) ∨ (s0_17.toInt = 0)) → w_X11_isSmall_17 Q s0_17 := by
    intro s0_17 f1
    unfold w_X11_isSmall_17
    refine ⟨i_01 (by omega) (by omega), ?_⟩
    exact hq s0_17 (by omega)
  have j_16 : ((p0.toInt ≤ 96) ∨ (97 ≤ p0.toInt ∧ 123 ≤ p0.toInt)) → w_X11_isSmall_16 Q := by
    intro f2
    unfold w_X11_isSmall_16
    exact j_17 0 (by omega)
  refine ⟨fun c3 => ?_, fun c3 => ?_⟩
  · have f3 : p0.toInt < 97 := i_lt (a := p0.toInt) (b := 97) rfl rfl c3
    exact j_16  (by omega)
  · have f4 : 97 ≤ p0.toInt := i_nlt (a := p0.toInt) (b := 97) rfl rfl c3
    refine ⟨fun c9 => ?_, fun c9 => ?_⟩
    · have f5 : 122 < p0.toInt := i_lt (a := 122) (b := p0.toInt) rfl rfl c9
      exact j_16  (by omega)
    · have f6 : p0.toInt ≤ 122 := i_nlt (a := 122) (b := p0.toInt) rfl rfl c9
      exact j_17 1 (by omega)
set_option maxHeartbeats 4000000 in
theorem ok_X11_named {p1 : Int32} {p2 : Int32} {v_latestFinding : Int32} {v_patterns : Nat → Option Nat} {v_patterns_p1_there : Bool} {v_patterns_p1_count : Int32} {v_patterns_p1_sort : Nat → Int32} {v_patterns_p1_value : Nat → Int32} {v_patterns_p1_low : Nat → Int32} {h2 : Nat} {Q : Int32 → Int32 → Prop} (a0 : 0 ≤ v_patterns_p1_count.toInt) (a1 : v_patterns_p1_count.toInt ≤ 256) (v0 : 0 ≤ p1.toInt → p1.toInt < 6 → v_patterns p1.toNatClampNeg = some h2) (hq : ∀ (r : Int32) (ov_latestFinding : Int32), Q r ov_latestFinding) : w_X11_named p1 p2 v_latestFinding v_patterns v_patterns_p1_there v_patterns_p1_count v_patterns_p1_sort v_patterns_p1_value v_patterns_p1_low h2 Q := by
  have q_t : (bz true).toInt = 1 := rfl
  have q_f : (bz false).toInt = 0 := rfl
  have q_m4 : ((-4) : Int32).toInt = (-4) := rfl
  have q_m2 : ((-2) : Int32).toInt = (-2) := rfl
  unfold w_X11_named
  refine ok_X11_patternIn v0 (fun r2 r2_0 f1 f2 => ?_)
  refine ⟨fun c2 => ?_, fun c2 => ?_⟩
  · have f3 : r2.toInt = 0 := i_eq (a := r2.toInt) (b := 0) rfl rfl c2
    exact hq (-2) r2_0 
  · have f4 : r2.toInt ≠ 0 := i_ne (a := r2.toInt) (b := 0) rfl rfl c2
    refine ok_X11_isSmall  (fun r200014 f5 => ?_)
    have j_200030 : ∀ (s0_200030 : Int32), w_X11_named_200030 Q s0_200030 r2_0 := by
      intro s0_200030
      unfold w_X11_named_200030
      exact hq s0_200030 r2_0 
    refine ⟨fun c200017 => ?_, fun c200017 => ?_⟩
    · have f6 : r200014.toInt = 0 := i_eq (a := r200014.toInt) (b := 0) rfl rfl c200017
      exact j_200030 (-4) 
    · have f7 : r200014.toInt ≠ 0 := i_ne (a := r200014.toInt) (b := 0) rfl rfl c200017
      refine ok_X10_captureNamed (by omega) (by omega) (fun r200022 => ?_)
      exact j_200030 r200022 
set_option maxHeartbeats 4000000 in
theorem ok_X11_areThere {p1 : Int32} {v_latestFinding : Int32} {v_patterns : Nat → Option Nat} {v_patterns_0_there : Bool} {v_patterns_1_there : Bool} {v_patterns_2_there : Bool} {v_patterns_3_there : Bool} {v_patterns_4_there : Bool} {v_patterns_5_there : Bool} {h2 : Nat} {h3 : Nat} {h4 : Nat} {h5 : Nat} {h6 : Nat} {h7 : Nat} {Q : Int32 → Int32 → Prop} (v0 : 0 ≤ (5 : Int32).toInt → (5 : Int32).toInt < 6 → v_patterns (5 : Int32).toNatClampNeg = some h7) (v1 : 0 ≤ (4 : Int32).toInt → (4 : Int32).toInt < 6 → v_patterns (4 : Int32).toNatClampNeg = some h6) (v2 : 0 ≤ (3 : Int32).toInt → (3 : Int32).toInt < 6 → v_patterns (3 : Int32).toNatClampNeg = some h5) (v3 : 0 ≤ (2 : Int32).toInt → (2 : Int32).toInt < 6 → v_patterns (2 : Int32).toNatClampNeg = some h4) (v4 : 0 ≤ (1 : Int32).toInt → (1 : Int32).toInt < 6 → v_patterns (1 : Int32).toNatClampNeg = some h3) (v5 : 0 ≤ (0 : Int32).toInt → (0 : Int32).toInt < 6 → v_patterns (0 : Int32).toNatClampNeg = some h2) (hq : ∀ (r : Int32) (ov_latestFinding : Int32), ((r.toInt = 1 ∧ ov_latestFinding.toInt = v_latestFinding.toInt) ∨ (r.toInt = 0) ∨ (r.toInt = 1)) → Q r ov_latestFinding) : w_X11_areThere p1 v_latestFinding v_patterns v_patterns_0_there v_patterns_1_there v_patterns_2_there v_patterns_3_there v_patterns_4_there v_patterns_5_there h2 h3 h4 h5 h6 h7 Q := by
  have q_t : (bz true).toInt = 1 := rfl
  have q_f : (bz false).toInt = 0 := rfl
  have q_0 : (0 : Int32).toInt = 0 := rfl
  have q_1 : (1 : Int32).toInt = 1 := rfl
  have q_2 : (2 : Int32).toInt = 2 := rfl
  have q_3 : (3 : Int32).toInt = 3 := rfl
  have q_4 : (4 : Int32).toInt = 4 := rfl
  have q_5 : (5 : Int32).toInt = 5 := rfl
  have q_6 : (6 : Int32).toInt = 6 := rfl
  unfold w_X11_areThere
  refine ok_X11_isTold  (fun r100010 f1 f2 => ?_)
  have j_1300021 : ∀ (v_latestFinding_1300021 : Int32), w_X11_areThere_1300021 Q v_latestFinding_1300021 := by
    intro v_latestFinding_1300021
    unfold w_X11_areThere_1300021
    exact hq 0 v_latestFinding_1300021 (by omega)
  have j_1200026 : ∀ (v_latestFinding_1200026 : Int32), w_X11_areThere_1200026 Q v_latestFinding_1200026 := by
    intro v_latestFinding_1200026
    unfold w_X11_areThere_1200026
    exact hq 1 v_latestFinding_1200026 (by omega)
  have j_1200021 : ∀ (v_latestFinding_1200021 : Int32), w_X11_areThere_1200021 Q v_latestFinding_1200021 := by
    intro v_latestFinding_1200021
    unfold w_X11_areThere_1200021
    exact j_1200026 v_latestFinding_1200021 
  have j_1100021 : ∀ (v_latestFinding_1100021 : Int32), w_X11_areThere_1100021 Q v_latestFinding_1100021 := by
    intro v_latestFinding_1100021
    unfold w_X11_areThere_1100021
    exact hq 0 v_latestFinding_1100021 (by omega)
  have j_1000026 : ∀ (v_latestFinding_1000026 : Int32), w_X11_areThere_1000026 p1 v_patterns v_patterns_5_there h7 Q v_latestFinding_1000026 := by
    intro v_latestFinding_1000026
    unfold w_X11_areThere_1000026
    refine ok_X11_isTold  (fun r1200010 f3 f4 => ?_)
    refine ⟨fun c1200013 => ?_, fun c1200013 => ?_⟩
    · have f5 : r1200010.toInt = 0 := i_eq (a := r1200010.toInt) (b := 0) rfl rfl c1200013
      exact j_1200026 v_latestFinding_1000026 
    · have f6 : r1200010.toInt ≠ 0 := i_ne (a := r1200010.toInt) (b := 0) rfl rfl c1200013
      refine ok_X11_patternIn v0 (fun r1200018 r1200018_0 f7 f8 => ?_)
      refine ⟨fun c1200018 => ?_, fun c1200018 => ?_⟩
      · have f9 : r1200018.toInt = 0 := i_eq (a := r1200018.toInt) (b := 0) rfl rfl c1200018
        exact j_1300021 r1200018_0 
      · have f10 : r1200018.toInt ≠ 0 := i_ne (a := r1200018.toInt) (b := 0) rfl rfl c1200018
        exact j_1200021 r1200018_0 
  have j_1000021 : ∀ (v_latestFinding_1000021 : Int32), w_X11_areThere_1000021 p1 v_patterns v_patterns_5_there h7 Q v_latestFinding_1000021 := by
    intro v_latestFinding_1000021
    unfold w_X11_areThere_1000021
    exact j_1000026 v_latestFinding_1000021 
  have j_900021 : ∀ (v_latestFinding_900021 : Int32), w_X11_areThere_900021 Q v_latestFinding_900021 := by
    intro v_latestFinding_900021
    unfold w_X11_areThere_900021
    exact hq 0 v_latestFinding_900021 (by omega)
  have j_800026 : ∀ (v_latestFinding_800026 : Int32), w_X11_areThere_800026 p1 v_patterns v_patterns_4_there v_patterns_5_there h6 h7 Q v_latestFinding_800026 := by
    intro v_latestFinding_800026
    unfold w_X11_areThere_800026
    refine ok_X11_isTold  (fun r1000010 f11 f12 => ?_)
    refine ⟨fun c1000013 => ?_, fun c1000013 => ?_⟩
    · have f13 : r1000010.toInt = 0 := i_eq (a := r1000010.toInt) (b := 0) rfl rfl c1000013
      exact j_1000026 v_latestFinding_800026 
    · have f14 : r1000010.toInt ≠ 0 := i_ne (a := r1000010.toInt) (b := 0) rfl rfl c1000013
      refine ok_X11_patternIn v1 (fun r1000018 r1000018_0 f15 f16 => ?_)
      refine ⟨fun c1000018 => ?_, fun c1000018 => ?_⟩
      · have f17 : r1000018.toInt = 0 := i_eq (a := r1000018.toInt) (b := 0) rfl rfl c1000018
        exact j_1100021 r1000018_0 
      · have f18 : r1000018.toInt ≠ 0 := i_ne (a := r1000018.toInt) (b := 0) rfl rfl c1000018
        exact j_1000021 r1000018_0 
  have j_800021 : ∀ (v_latestFinding_800021 : Int32), w_X11_areThere_800021 p1 v_patterns v_patterns_4_there v_patterns_5_there h6 h7 Q v_latestFinding_800021 := by
    intro v_latestFinding_800021
    unfold w_X11_areThere_800021
    exact j_800026 v_latestFinding_800021 
  have j_700021 : ∀ (v_latestFinding_700021 : Int32), w_X11_areThere_700021 Q v_latestFinding_700021 := by
    intro v_latestFinding_700021
    unfold w_X11_areThere_700021
    exact hq 0 v_latestFinding_700021 (by omega)
  have j_600026 : ∀ (v_latestFinding_600026 : Int32), w_X11_areThere_600026 p1 v_patterns v_patterns_3_there v_patterns_4_there v_patterns_5_there h5 h6 h7 Q v_latestFinding_600026 := by
    intro v_latestFinding_600026
    unfold w_X11_areThere_600026
    refine ok_X11_isTold  (fun r800010 f19 f20 => ?_)
    refine ⟨fun c800013 => ?_, fun c800013 => ?_⟩
    · have f21 : r800010.toInt = 0 := i_eq (a := r800010.toInt) (b := 0) rfl rfl c800013
      exact j_800026 v_latestFinding_600026 
    · have f22 : r800010.toInt ≠ 0 := i_ne (a := r800010.toInt) (b := 0) rfl rfl c800013
      refine ok_X11_patternIn v2 (fun r800018 r800018_0 f23 f24 => ?_)
      refine ⟨fun c800018 => ?_, fun c800018 => ?_⟩
      · have f25 : r800018.toInt = 0 := i_eq (a := r800018.toInt) (b := 0) rfl rfl c800018
        exact j_900021 r800018_0 
      · have f26 : r800018.toInt ≠ 0 := i_ne (a := r800018.toInt) (b := 0) rfl rfl c800018
        exact j_800021 r800018_0 
  have j_600021 : ∀ (v_latestFinding_600021 : Int32), w_X11_areThere_600021 p1 v_patterns v_patterns_3_there v_patterns_4_there v_patterns_5_there h5 h6 h7 Q v_latestFinding_600021 := by
    intro v_latestFinding_600021
    unfold w_X11_areThere_600021
    exact j_600026 v_latestFinding_600021 
  have j_500021 : ∀ (v_latestFinding_500021 : Int32), w_X11_areThere_500021 Q v_latestFinding_500021 := by
    intro v_latestFinding_500021
    unfold w_X11_areThere_500021
    exact hq 0 v_latestFinding_500021 (by omega)
  have j_400026 : ∀ (v_latestFinding_400026 : Int32), w_X11_areThere_400026 p1 v_patterns v_patterns_2_there v_patterns_3_there v_patterns_4_there v_patterns_5_there h4 h5 h6 h7 Q v_latestFinding_400026 := by
    intro v_latestFinding_400026
    unfold w_X11_areThere_400026
    refine ok_X11_isTold  (fun r600010 f27 f28 => ?_)
    refine ⟨fun c600013 => ?_, fun c600013 => ?_⟩
    · have f29 : r600010.toInt = 0 := i_eq (a := r600010.toInt) (b := 0) rfl rfl c600013
      exact j_600026 v_latestFinding_400026 
    · have f30 : r600010.toInt ≠ 0 := i_ne (a := r600010.toInt) (b := 0) rfl rfl c600013
      refine ok_X11_patternIn v3 (fun r600018 r600018_0 f31 f32 => ?_)
      refine ⟨fun c600018 => ?_, fun c600018 => ?_⟩
      · have f33 : r600018.toInt = 0 := i_eq (a := r600018.toInt) (b := 0) rfl rfl c600018
        exact j_700021 r600018_0 
      · have f34 : r600018.toInt ≠ 0 := i_ne (a := r600018.toInt) (b := 0) rfl rfl c600018
        exact j_600021 r600018_0 
  have j_400021 : ∀ (v_latestFinding_400021 : Int32), w_X11_areThere_400021 p1 v_patterns v_patterns_2_there v_patterns_3_there v_patterns_4_there v_patterns_5_there h4 h5 h6 h7 Q v_latestFinding_400021 := by
    intro v_latestFinding_400021
    unfold w_X11_areThere_400021
    exact j_400026 v_latestFinding_400021 
  refine ⟨fun c100013 => ?_, fun c100013 => ?_⟩
  · have f35 : r100010.toInt = 0 := i_eq (a := r100010.toInt) (b := 0) rfl rfl c100013
    refine ok_X11_isTold  (fun r1500010 f36 f37 => ?_)
    refine ⟨fun c1500013 => ?_, fun c1500013 => ?_⟩
    · have f38 : r1500010.toInt = 0 := i_eq (a := r1500010.toInt) (b := 0) rfl rfl c1500013
      refine ok_X11_isTold  (fun r1600010 f39 f40 => ?_)
      refine ⟨fun c1600013 => ?_, fun c1600013 => ?_⟩
      · have f41 : r1600010.toInt = 0 := i_eq (a := r1600010.toInt) (b := 0) rfl rfl c1600013
        refine ok_X11_isTold  (fun r1700010 f42 f43 => ?_)
        refine ⟨fun c1700013 => ?_, fun c1700013 => ?_⟩
        · have f44 : r1700010.toInt = 0 := i_eq (a := r1700010.toInt) (b := 0) rfl rfl c1700013
          refine ok_X11_isTold  (fun r1800010 f45 f46 => ?_)
          refine ⟨fun c1800013 => ?_, fun c1800013 => ?_⟩
          · have f47 : r1800010.toInt = 0 := i_eq (a := r1800010.toInt) (b := 0) rfl rfl c1800013
            refine ok_X11_isTold  (fun r1900010 f48 f49 => ?_)
            refine ⟨fun c1900013 => ?_, fun c1900013 => ?_⟩
            · have f50 : r1900010.toInt = 0 := i_eq (a := r1900010.toInt) (b := 0) rfl rfl c1900013
              exact hq 1 v_latestFinding (by omega)
            · have f51 : r1900010.toInt ≠ 0 := i_ne (a := r1900010.toInt) (b := 0) rfl rfl c1900013
              refine ok_X11_patternIn v0 (fun r1900018 r1900018_0 f52 f53 => ?_)
              refine ⟨fun c1900018 => ?_, fun c1900018 => ?_⟩
              · have f54 : r1900018.toInt = 0 := i_eq (a := r1900018.toInt) (b := 0) rfl rfl c1900018
                exact j_1300021 r1900018_0 
              · have f55 : r1900018.toInt ≠ 0 := i_ne (a := r1900018.toInt) (b := 0) rfl rfl c1900018
                exact j_1200021 r1900018_0 
          · have f56 : r1800010.toInt ≠ 0 := i_ne (a := r1800010.toInt) (b := 0) rfl rfl c1800013
            refine ok_X11_patternIn v1 (fun r1800018 r1800018_0 f57 f58 => ?_)
            refine ⟨fun c1800018 => ?_, fun c1800018 => ?_⟩
            · have f59 : r1800018.toInt = 0 := i_eq (a := r1800018.toInt) (b := 0) rfl rfl c1800018
              exact j_1100021 r1800018_0 
            · have f60 : r1800018.toInt ≠ 0 := i_ne (a := r1800018.toInt) (b := 0) rfl rfl c1800018
              exact j_1000021 r1800018_0 
        · have f61 : r1700010.toInt ≠ 0 := i_ne (a := r1700010.toInt) (b := 0) rfl rfl c1700013
          refine ok_X11_patternIn v2 (fun r1700018 r1700018_0 f62 f63 => ?_)
          refine ⟨fun c1700018 => ?_, fun c1700018 => ?_⟩
          · have f64 : r1700018.toInt = 0 := i_eq (a := r1700018.toInt) (b := 0) rfl rfl c1700018
            exact j_900021 r1700018_0 
          · have f65 : r1700018.toInt ≠ 0 := i_ne (a := r1700018.toInt) (b := 0) rfl rfl c1700018
            exact j_800021 r1700018_0 
      · have f66 : r1600010.toInt ≠ 0 := i_ne (a := r1600010.toInt) (b := 0) rfl rfl c1600013
        refine ok_X11_patternIn v3 (fun r1600018 r1600018_0 f67 f68 => ?_)
        refine ⟨fun c1600018 => ?_, fun c1600018 => ?_⟩
        · have f69 : r1600018.toInt = 0 := i_eq (a := r1600018.toInt) (b := 0) rfl rfl c1600018
          exact j_700021 r1600018_0 
        · have f70 : r1600018.toInt ≠ 0 := i_ne (a := r1600018.toInt) (b := 0) rfl rfl c1600018
          exact j_600021 r1600018_0 
    · have f71 : r1500010.toInt ≠ 0 := i_ne (a := r1500010.toInt) (b := 0) rfl rfl c1500013
      refine ok_X11_patternIn v4 (fun r1500018 r1500018_0 f72 f73 => ?_)
      refine ⟨fun c1500018 => ?_, fun c1500018 => ?_⟩
      · have f74 : r1500018.toInt = 0 := i_eq (a := r1500018.toInt) (b := 0) rfl rfl c1500018
        exact j_500021 r1500018_0 
      · have f75 : r1500018.toInt ≠ 0 := i_ne (a := r1500018.toInt) (b := 0) rfl rfl c1500018
        exact j_400021 r1500018_0 
  · have f76 : r100010.toInt ≠ 0 := i_ne (a := r100010.toInt) (b := 0) rfl rfl c100013
    refine ok_X11_patternIn v5 (fun r100018 r100018_0 f77 f78 => ?_)
    refine ⟨fun c100018 => ?_, fun c100018 => ?_⟩
    · have f79 : r100018.toInt = 0 := i_eq (a := r100018.toInt) (b := 0) rfl rfl c100018
      exact hq 0 r100018_0 (by omega)
    · have f80 : r100018.toInt ≠ 0 := i_ne (a := r100018.toInt) (b := 0) rfl rfl c100018
      refine ok_X11_isTold  (fun r400010 f81 f82 => ?_)
      refine ⟨fun c400013 => ?_, fun c400013 => ?_⟩
      · have f83 : r400010.toInt = 0 := i_eq (a := r400010.toInt) (b := 0) rfl rfl c400013
        exact j_400026 r100018_0 
      · have f84 : r400010.toInt ≠ 0 := i_ne (a := r400010.toInt) (b := 0) rfl rfl c400013
        refine ok_X11_patternIn v4 (fun r400018 r400018_0 f85 f86 => ?_)
        refine ⟨fun c400018 => ?_, fun c400018 => ?_⟩
        · have f87 : r400018.toInt = 0 := i_eq (a := r400018.toInt) (b := 0) rfl rfl c400018
          exact j_500021 r400018_0 
        · have f88 : r400018.toInt ≠ 0 := i_ne (a := r400018.toInt) (b := 0) rfl rfl c400018
          exact j_400021 r400018_0 
set_option maxHeartbeats 4000000 in
theorem ok_X0_gather_v1 {v_begins : Nat → Int32} {a1_count : Int32} {a1_ranges : Int32} {a1_sort : Nat → Int32} {a1_parts : Nat → Int32} {a1_value : Nat → Int32} {a1_low : Nat → Int32} {a1_high : Nat → Int32} {a1_withinCase : Nat → Bool} {a1_rangeBegin : Nat → Int32} {a1_rangeEnd : Nat → Int32} {Q : Int32 → (Nat → Int32) → Prop} (a0 : 0 ≤ a1_count.toInt) (a1 : a1_count.toInt ≤ 256) (a2 : 0 ≤ a1_ranges.toInt) (a3 : a1_ranges.toInt ≤ 512) (hq : ∀ (ov_count : Int32) (ov_begins : Nat → Int32), 0 ≤ ov_count.toInt + 1 → 0 ≤ ov_count.toInt → ov_count.toInt ≤ 256 → 1 ≤ ov_count.toInt → Q ov_count ov_begins) : w_X0_gather_v1 v_begins a1_count a1_ranges a1_sort a1_parts a1_value a1_low a1_high a1_withinCase a1_rangeBegin a1_rangeEnd Q := by
  have q_t : (bz true).toInt = 1 := rfl
  have q_f : (bz false).toInt = 0 := rfl
  have q_1 : (1 : Int32).toInt = 1 := rfl
  unfold w_X0_gather_v1
  intro g11 eg11
  refine ok_X0_addTree (by omega) (by omega) (by omega) (by omega) (by omega) (by omega) (fun r14_0 r14_1 f1 f2 f3 f4 => ?_)
  exact hq r14_0 r14_1 (by omega) (by omega) (by omega) (by omega)
set_option maxHeartbeats 4000000 in
theorem ok_X11_risky {p1 : Int32} {v_latestFinding : Int32} {v_patterns : Nat → Option Nat} {v_sets_alphabet_count : Int32} {v_sets_alphabet_begins : Nat → Int32} {v_patterns_p1_there : Bool} {v_patterns_p1_count : Int32} {v_patterns_p1_ranges : Int32} {v_patterns_p1_sort : Nat → Int32} {v_patterns_p1_holder : Nat → Int32} {v_patterns_p1_end : Nat → Int32} {v_patterns_p1_parts : Nat → Int32} {v_patterns_p1_value : Nat → Int32} {v_patterns_p1_low : Nat → Int32} {v_patterns_p1_high : Nat → Int32} {v_patterns_p1_mayBeEmpty : Nat → Bool} {v_patterns_p1_withinCase : Nat → Bool} {v_patterns_p1_marked : Nat → Bool} {v_patterns_p1_rangeBegin : Nat → Int32} {v_patterns_p1_rangeEnd : Nat → Int32} {h5 : Nat} {Q : Int32 → Int32 → Int32 → (Nat → Int32) → (Nat → Bool) → Prop} (a0 : 0 ≤ v_sets_alphabet_count.toInt) (a1 : v_sets_alphabet_count.toInt ≤ 256) (a2 : 0 ≤ v_patterns_p1_count.toInt) (a3 : v_patterns_p1_count.toInt ≤ 256) (a4 : 0 ≤ v_patterns_p1_ranges.toInt) (a5 : v_patterns_p1_ranges.toInt ≤ 512) (b0 : rp (fun k v => k < v ∧ v ≤ 256) v_patterns_p1_end 0 v_patterns_p1_count.toInt) (b1 : rp (fun k v => v < k ∧ -1 ≤ v) v_patterns_p1_holder 0 v_patterns_p1_count.toInt) (v0 : 0 ≤ p1.toInt → p1.toInt < 6 → v_patterns p1.toNatClampNeg = some h5) (hq : ∀ (r : Int32) (ov_latestFinding : Int32) (ov_sets_alphabet_count : Int32) (ov_sets_alphabet_begins : Nat → Int32) (ov_patterns_p1_marked : Nat → Bool), 0 ≤ r.toInt + 2 → r.toInt ≤ 255 → 0 ≤ ov_sets_alphabet_count.toInt → ov_sets_alphabet_count.toInt ≤ 256 → Q r ov_latestFinding ov_sets_alphabet_count ov_sets_alphabet_begins ov_patterns_p1_marked) : w_X11_risky p1 v_latestFinding v_patterns v_sets_alphabet_count v_sets_alphabet_begins v_patterns_p1_there v_patterns_p1_count v_patterns_p1_ranges v_patterns_p1_sort v_patterns_p1_holder v_patterns_p1_end v_patterns_p1_parts v_patterns_p1_value v_patterns_p1_low v_patterns_p1_high v_patterns_p1_mayBeEmpty v_patterns_p1_withinCase v_patterns_p1_marked v_patterns_p1_rangeBegin v_patterns_p1_rangeEnd h5 Q := by
  have q_t : (bz true).toInt = 1 := rfl
  have q_f : (bz false).toInt = 0 := rfl
  have q_m2 : ((-2) : Int32).toInt = (-2) := rfl
  unfold w_X11_risky
  refine ok_X11_patternIn v0 (fun r2 r2_0 f501 f502 => ?_)
  refine ⟨fun c2 => ?_, fun c2 => ?_⟩
  · have f503 : r2.toInt = 0 := i_eq (a := r2.toInt) (b := 0) rfl rfl c2
    exact hq (-2) r2_0 v_sets_alphabet_count v_sets_alphabet_begins v_patterns_p1_marked (by omega) (by omega) (by omega) (by omega)
  · have f504 : r2.toInt ≠ 0 := i_ne (a := r2.toInt) (b := 0) rfl rfl c2
    refine ok_X0_gather_v1 (by omega) (by omega) (by omega) (by omega) (fun r200022_0 r200022_1 f505 f506 f507 f508 => ?_)
    refine ok_X10_firstRisky (by omega) (by omega) (by omega) (by omega) (by omega) (by omega) (rp_mono b0 (by omega) (by omega)) (rp_mono b1 (by omega) (by omega)) (fun r200033 r200033_0 f509 f510 f511 f512 => ?_)
    exact hq r200033 r2_0 r200022_0 r200022_1 r200033_0 (by omega) (by omega) (by omega) (by omega)
set_option maxHeartbeats 4000000 in
theorem ok_X5_write_v1 {v_start : Int32} {v_kinds : Nat → Int32} {v_subjects : Nat → Int32} {v_nexts : Nat → Int32} {v_others : Nat → Int32} {a1_there : Bool} {a1_count : Int32} {a1_captures : Int32} {a1_ranges : Int32} {a1_sort : Nat → Int32} {a1_end : Nat → Int32} {a1_before : Nat → Int32} {a1_last : Nat → Int32} {a1_value : Nat → Int32} {a1_low : Nat → Int32} {a1_high : Nat → Int32} {Q : Int32 → Int32 → (Nat → Int32) → (Nat → Int32) → (Nat → Int32) → (Nat → Int32) → Prop} (a0 : 0 ≤ a1_count.toInt) (a1 : a1_count.toInt ≤ 256) (a2 : 0 ≤ a1_ranges.toInt) (a3 : a1_ranges.toInt ≤ 512) (b0 : rp (fun k v => -1 ≤ v ∧ v ≤ 255) a1_last 0 a1_count.toInt) (b1 : rp (fun k v => k < v ∧ v ≤ 256) a1_end 0 a1_count.toInt) (b2 : rp (fun k v => v < k ∧ -1 ≤ v) a1_before 0 a1_count.toInt) (hq : ∀ (ov_start : Int32) (ov_count : Int32) (ov_kinds : Nat → Int32) (ov_subjects : Nat → Int32) (ov_nexts : Nat → Int32) (ov_others : Nat → Int32), 0 ≤ ov_count.toInt → ov_count.toInt ≤ 512 → Q ov_start ov_count ov_kinds ov_subjects ov_nexts ov_others) : w_X5_write_v1 v_start v_kinds v_subjects v_nexts v_others a1_there a1_count a1_captures a1_ranges a1_sort a1_end a1_before a1_last a1_value a1_low a1_high Q := by
  have q_t : (bz true).toInt = 1 := rfl
  have q_f : (bz false).toInt = 0 := rfl
  have q_m1 : ((-1) : Int32).toInt = (-1) := rfl
  have q_0 : (0 : Int32).toInt = 0 := rfl
  have q_6 : (6 : Int32).toInt = 6 := rfl
  unfold w_X5_write_v1
  refine ok_X5_add (by omega) (by omega) (fun r100019 r100019_0 r100019_1 r100019_2 r100019_3 r100019_4 f1 f2 => ?_)
  refine ok_X5_build (by omega) (by omega) (by omega) (by omega) (by omega) (by omega) (by omega) (by omega) (rp_mono b0 (by omega) (by omega)) (rp_mono b1 (by omega) (by omega)) (rp_mono b2 (by omega) (by omega)) (fun r100024 r100024_0 r100024_1 r100024_2 r100024_3 r100024_4 f3 f4 => ?_)
  exact hq r100024 r100024_0 r100024_1 r100024_2 r100024_3 r100024_4 (by omega) (by omega)
set_option maxHeartbeats 4000000 in
theorem ok_X9_make_v1 {a2_count : Int32} {a2_begins : Nat → Int32} {v_count : Int32} {v_stamp : Int32} {v_stackCount : Int32} {v_program_start : Int32} {v_program_kinds : Nat → Int32} {v_program_subjects : Nat → Int32} {v_program_nexts : Nat → Int32} {v_program_others : Nat → Int32} {v_positionOf : Nat → Int32} {v_pcOf : Nat → Int32} {v_follow : Nat → Int64} {v_takers : Nat → Int64} {v_seen : Nat → Int32} {v_stack : Nat → Int32} {v_states : Nat → Int64} {v_ahead : Nat → Int64} {v_goes : Nat → Int32} {a1_there : Bool} {a1_count : Int32} {a1_captures : Int32} {a1_ranges : Int32} {a1_sort : Nat → Int32} {a1_end : Nat → Int32} {a1_before : Nat → Int32} {a1_last : Nat → Int32} {a1_value : Nat → Int32} {a1_low : Nat → Int32} {a1_high : Nat → Int32} {a1_withinCase : Nat → Bool} {a1_rangeBegin : Nat → Int32} {a1_rangeEnd : Nat → Int32} {Q : Int32 → Int32 → Int32 → Int32 → Int32 → Int32 → Int32 → Int32 → (Nat → Int32) → (Nat → Int32) → (Nat → Int32) → (Nat → Int32) → (Nat → Int32) → (Nat → Int32) → (Nat → Int64) → (Nat → Int64) → (Nat → Int32) → (Nat → Int32) → (Nat → Int64) → (Nat → Int64) → (Nat → Int32) → Prop} (a0 : 0 ≤ a2_count.toInt) (a1 : a2_count.toInt ≤ 256) (a2 : 0 ≤ v_count.toInt) (a3 : v_count.toInt ≤ 60) (a4 : 0 ≤ a1_count.toInt) (a5 : a1_count.toInt ≤ 256) (a6 : 0 ≤ a1_ranges.toInt) (a7 : a1_ranges.toInt ≤ 512) (b0 : rp (fun k v => -1 ≤ v ∧ v ≤ 255) a1_last 0 a1_count.toInt) (b1 : rp (fun k v => k < v ∧ v ≤ 256) a1_end 0 a1_count.toInt) (b2 : rp (fun k v => v < k ∧ -1 ≤ v) a1_before 0 a1_count.toInt) (hq : ∀ (r : Int32) (ov_count : Int32) (ov_positionCount : Int32) (ov_stamp : Int32) (ov_stackCount : Int32) (ov_width : Int32) (ov_program_start : Int32) (ov_program_count : Int32) (ov_program_kinds : Nat → Int32) (ov_program_subjects : Nat → Int32) (ov_program_nexts : Nat → Int32) (ov_program_others : Nat → Int32) (ov_positionOf : Nat → Int32) (ov_pcOf : Nat → Int32) (ov_follow : Nat → Int64) (ov_takers : Nat → Int64) (ov_seen : Nat → Int32) (ov_stack : Nat → Int32) (ov_states : Nat → Int64) (ov_ahead : Nat → Int64) (ov_goes : Nat → Int32), 0 ≤ ov_program_count.toInt → ov_program_count.toInt ≤ 512 → ((ov_width.toInt = 256 ∧ 256 ≤ a2_count.toInt) ∨ (ov_width.toInt = a2_count.toInt ∧ a2_count.toInt ≤ 256)) → 0 ≤ ov_positionCount.toInt + 1 → 0 ≤ ov_positionCount.toInt → ov_positionCount.toInt ≤ 60 → ov_positionCount.toInt ≤ 61 → ov_positionCount.toInt ≤ ov_program_count.toInt → ov_positionCount.toInt ≤ ov_program_count.toInt + 1 → 0 ≤ ov_width.toInt → ov_width.toInt ≤ 256 → 0 ≤ ov_stackCount.toInt + 1 → 0 ≤ ov_stackCount.toInt → 0 ≤ r.toInt + 1 → 0 ≤ r.toInt → r.toInt ≤ 1 → r.toInt ≤ 59 → r.toInt ≤ 60 → r.toInt ≤ 61 → r.toInt ≤ ov_positionCount.toInt + 1 → r.toInt ≤ ov_stackCount.toInt + 1 → r.toInt ≤ ov_width.toInt + 1 → r.toInt ≤ ov_program_count.toInt + 1 → r.toInt ≤ a2_count.toInt + 1 → r.toInt ≤ a1_count.toInt + 1 → r.toInt ≤ a1_ranges.toInt + 1 → r.toInt ≤ ov_count.toInt → 0 ≤ ov_count.toInt + 1 → 0 ≤ ov_count.toInt → 1 ≤ ov_count.toInt → ov_count.toInt ≤ 60 → ov_count.toInt ≤ 61 → Q r ov_count ov_positionCount ov_stamp ov_stackCount ov_width ov_program_start ov_program_count ov_program_kinds ov_program_subjects ov_program_nexts ov_program_others ov_positionOf ov_pcOf ov_follow ov_takers ov_seen ov_stack ov_states ov_ahead ov_goes) : w_X9_make_v1 a2_count a2_begins v_count v_stamp v_stackCount v_program_start v_program_kinds v_program_subjects v_program_nexts v_program_others v_positionOf v_pcOf v_follow v_takers v_seen v_stack v_states v_ahead v_goes a1_there a1_count a1_captures a1_ranges a1_sort a1_end a1_before a1_last a1_value a1_low a1_high a1_withinCase a1_rangeBegin a1_rangeEnd Q := by
  have q_t : (bz true).toInt = 1 := rfl
  have q_f : (bz false).toInt = 0 := rfl
  have q_0 : (0 : Int32).toInt = 0 := rfl
  have q_1 : (1 : Int32).toInt = 1 := rfl
  unfold w_X9_make_v1
  refine ok_X5_write_v1 (by omega) (by omega) (by omega) (by omega) (rp_mono b0 (by omega) (by omega)) (rp_mono b1 (by omega) (by omega)) (rp_mono b2 (by omega) (by omega)) (fun r5_0 r5_1 r5_2 r5_3 r5_4 r5_5 f1 f2 => ?_)
  intro x100016 ex100016
  have f3 : ((x100016.toInt = 256 ∧ 256 ≤ a2_count.toInt) ∨ (x100016.toInt = a2_count.toInt ∧ a2_count.toInt ≤ 256)) := by have h9 := i_min (a := a2_count.toInt) (b := 256) ex100016 rfl rfl; omega
  refine ok_X9_numberPositions (by omega) (by omega) (fun r100023_0 r100023_1 r100023_2 f4 f5 f6 f7 f8 f9 => ?_)
  have j_100028 : ∀ n_100028 : Nat, ∀ (l3_100028 : Int32) (v_stamp_100028 : Int32) (v_stackCount_100028 : Int32) (v_follow_100028 : Nat → Int64) (v_seen_100028 : Nat → Int32) (v_stack_100028 : Nat → Int32), 0 ≤ l3_100028.toInt → l3_100028.toInt ≤ r100023_0.toInt → ((-1) * l3_100028.toInt + 2147483648).toNat < n_100028 → w_X9_make_v1_100028 a2_count a2_begins a1_count a1_ranges a1_sort a1_value a1_low a1_high a1_withinCase a1_rangeBegin a1_rangeEnd Q v_count r100023_0 x100016 r5_0 r5_1 r5_2 r5_3 r5_4 r5_5 r100023_1 r100023_2 v_takers v_states v_ahead v_goes n_100028 l3_100028 v_stamp_100028 v_stackCount_100028 v_follow_100028 v_seen_100028 v_stack_100028 := by
    intro n_100028
    induction n_100028 with
    | zero =>
      intro l3_100028 v_stamp_100028 v_stackCount_100028 v_follow_100028 v_seen_100028 v_stack_100028 f10 f11 hm_100028
      exfalso; omega
    | succ n_100028 ih_100028 =>
      intro l3_100028 v_stamp_100028 v_stackCount_100028 v_follow_100028 v_seen_100028 v_stack_100028 f10 f11 hm_100028
      unfold w_X9_make_v1_100028
      unfold w_X9_make_v1_100028B
      refine ⟨fun c100033 => ?_, fun c100033 => ?_⟩
      · have f12 : r100023_0.toInt ≤ l3_100028.toInt := i_le (a := r100023_0.toInt) (b := l3_100028.toInt) rfl rfl c100033
        have j_100067 : ∀ n_100067 : Nat, ∀ (l3_100067 : Int32) (v_takers_100067 : Nat → Int64), 0 ≤ l3_100067.toInt → l3_100067.toInt ≤ a2_count.toInt → ((-1) * l3_100067.toInt + 2147483648).toNat < n_100067 → w_X9_make_v1_100067 a2_count a2_begins a1_count a1_ranges a1_sort a1_value a1_low a1_high a1_withinCase a1_rangeBegin a1_rangeEnd Q v_count r100023_0 v_stamp_100028 v_stackCount_100028 x100016 r5_0 r5_1 r5_2 r5_3 r5_4 r5_5 r100023_1 r100023_2 v_follow_100028 v_seen_100028 v_stack_100028 v_states v_ahead v_goes n_100067 l3_100067 v_takers_100067 := by
          intro n_100067
          induction n_100067 with
          | zero =>
            intro l3_100067 v_takers_100067 f13 f14 hm_100067
            exfalso; omega
          | succ n_100067 ih_100067 =>
            intro l3_100067 v_takers_100067 f13 f14 hm_100067
            unfold w_X9_make_v1_100067
            unfold w_X9_make_v1_100067B
            refine ⟨fun c100072 => ?_, fun c100072 => ?_⟩
            · have f15 : x100016.toInt ≤ l3_100067.toInt := i_le (a := x100016.toInt) (b := l3_100067.toInt) rfl rfl c100072
              intro g100107 eg100107
              refine ok_X9_reach (by omega) (by omega) (fun r100121 r100121_0 r100121_1 r100121_2 r100121_3 f16 f17 => ?_)
              intro g100124 eg100124
              have j_100130 : ∀ n_100130 : Nat, ∀ (l3_100130 : Int32) (l4_100130 : Int32) (v_count_100130 : Int32) (v_states_100130 : Nat → Int64) (v_ahead_100130 : Nat → Int64) (v_goes_100130 : Nat → Int32), 0 ≤ l3_100130.toInt → l3_100130.toInt ≤ 1 → 0 ≤ l4_100130.toInt → l4_100130.toInt ≤ v_count_100130.toInt → 1 ≤ v_count_100130.toInt → v_count_100130.toInt ≤ 60 → ((-1) * l4_100130.toInt + 60).toNat < n_100130 → w_X9_make_v1_100130 Q r100023_0 r100121_0 r100121_1 x100016 r5_0 r5_1 r5_2 r5_3 r5_4 r5_5 r100023_1 r100023_2 v_follow_100028 v_takers_100067 r100121_2 r100121_3 n_100130 l3_100130 l4_100130 v_count_100130 v_states_100130 v_ahead_100130 v_goes_100130 := by
                intro n_100130
                induction n_100130 with
                | zero =>
                  intro l3_100130 l4_100130 v_count_100130 v_states_100130 v_ahead_100130 v_goes_100130 f18 f19 f20 f21 f22 f23 hm_100130
                  exfalso; omega
                | succ n_100130 ih_100130 =>
                  intro l3_100130 l4_100130 v_count_100130 v_states_100130 v_ahead_100130 v_goes_100130 f18 f19 f20 f21 f22 f23 hm_100130
                  unfold w_X9_make_v1_100130
                  unfold w_X9_make_v1_100130B
                  have j_100163 : ((l3_100130.toInt = 0) ∨ (v_count_100130.toInt ≤ l4_100130.toInt)) → w_X9_make_v1_100163 Q l3_100130 v_count_100130 r100023_0 r100121_0 r100121_1 x100016 r5_0 r5_1 r5_2 r5_3 r5_4 r5_5 r100023_1 r100023_2 v_follow_100028 v_takers_100067 r100121_2 r100121_3 v_states_100130 v_ahead_100130 v_goes_100130 := by
                    intro f24
                    unfold w_X9_make_v1_100163
                    refine ⟨i_01 (by omega) (by omega), ?_⟩
                    exact hq l3_100130 v_count_100130 r100023_0 r100121_0 r100121_1 x100016 r5_0 r5_1 r5_2 r5_3 r5_4 r5_5 r100023_1 r100023_2 v_follow_100028 v_takers_100067 r100121_2 r100121_3 v_states_100130 v_ahead_100130 v_goes_100130 (by omega) (by omega) (by omega) (by omega) (by omega) (by omega) (by omega) (by omega) (by omega) (by omega) (by omega) (by omega) (by omega) (by omega) (by omega) (by omega) (by omega) (by omega) (by omega) (by omega) (by omega) (by omega) (by omega) (by omega) (by omega) (by omega) (by omega) (by omega) (by omega) (by omega) (by omega) (by omega)
                  refine ⟨fun c100131 => ?_, fun c100131 => ?_⟩
                  · have f25 : l3_100130.toInt = 0 := i_eq (a := l3_100130.toInt) (b := 0) rfl rfl c100131
                    exact j_100163  (by omega)
                  · have f26 : l3_100130.toInt ≠ 0 := i_ne (a := l3_100130.toInt) (b := 0) rfl rfl c100131
                    refine ⟨fun c100140 => ?_, fun c100140 => ?_⟩
                    · have f27 : v_count_100130.toInt ≤ l4_100130.toInt := i_le (a := v_count_100130.toInt) (b := l4_100130.toInt) rfl rfl c100140
                      exact j_100163  (by omega)
                    · have f28 : l4_100130.toInt < v_count_100130.toInt := i_nle (a := v_count_100130.toInt) (b := l4_100130.toInt) rfl rfl c100140
                      refine ⟨fun c100147 => ?_, fun c100147 => ?_⟩
                      · have f29 : 60 ≤ l4_100130.toInt := i_le (a := 60) (b := l4_100130.toInt) rfl rfl c100147
                        exfalso; omega
                      · have f30 : l4_100130.toInt < 60 := i_nle (a := 60) (b := l4_100130.toInt) rfl rfl c100147
                        refine ok_X9_fillState (by omega) (by omega) (by omega) (by omega) (by omega) (by omega) (by omega) (by omega) (fun r100153 r100153_0 r100153_1 r100153_2 r100153_3 f31 f32 f33 f34 => ?_)
                        intro x100157 ex100157
                        have f35 : x100157.toInt = l4_100130.toInt + 1 := i_add (a := l4_100130.toInt) (b := 1) ex100157 rfl rfl (by omega) (by omega)
                        exact ih_100130 r100153 x100157 r100153_0 r100153_1 r100153_2 r100153_3  (by omega) (by omega) (by omega) (by omega) (by omega) (by omega) (by have h8_0 := i_rng l4_100130; have h8_1 := i_rng x100157; omega)
              exact ⟨(60 : Int).toNat + 1, j_100130   ((60 : Int).toNat + 1) 1 0 1 g100107 g100124 v_goes  (by omega) (by omega) (by omega) (by omega) (by omega) (by omega) (by omega)⟩
            · have f36 : l3_100067.toInt < x100016.toInt := i_nle (a := x100016.toInt) (b := l3_100067.toInt) rfl rfl c100072
              refine ok_X0_leastOf (by omega) (by omega) (fun r100083 f37 => ?_)
              refine ok_X9_takersOf (by omega) (by omega) (by omega) (by omega) (by omega) (by omega) (by omega) (by omega) (fun r100086 => ?_)
              refine ⟨i_in (by omega) (by omega), ?_⟩
              intro g100089 eg100089
              intro x100090 ex100090
              have f38 : x100090.toInt = l3_100067.toInt + 1 := i_add (a := l3_100067.toInt) (b := 1) ex100090 rfl rfl (by omega) (by omega)
              exact ih_100067 x100090 g100089  (by omega) (by omega) (by have h8_0 := i_rng l3_100067; have h8_1 := i_rng x100090; omega)
        exact ⟨(2147483648 : Int).toNat + 1, j_100067   ((2147483648 : Int).toNat + 1) 0 v_takers  (by omega) (by omega) (by omega)⟩
      · have f39 : l3_100028.toInt < r100023_0.toInt := i_nle (a := r100023_0.toInt) (b := l3_100028.toInt) rfl rfl c100033
        refine ⟨i_in (by omega) (by omega), ?_⟩
        intro x100051 ex100051
        refine ok_X5_nextOf (by omega) (by omega) (fun r100052 f40 => ?_)
        refine ok_X9_reach (by omega) (by omega) (fun r100055 r100055_0 r100055_1 r100055_2 r100055_3 f41 f42 => ?_)
        refine ⟨i_in (by omega) (by omega), ?_⟩
        intro g100058 eg100058
        intro x100059 ex100059
        have f43 : x100059.toInt = l3_100028.toInt + 1 := i_add (a := l3_100028.toInt) (b := 1) ex100059 rfl rfl (by omega) (by omega)
        exact ih_100028 x100059 r100055_0 r100055_1 g100058 r100055_2 r100055_3  (by omega) (by omega) (by have h8_0 := i_rng l3_100028; have h8_1 := i_rng x100059; omega)
  exact ⟨(2147483648 : Int).toNat + 1, j_100028   ((2147483648 : Int).toNat + 1) 0 v_stamp v_stackCount v_follow v_seen v_stack  (by omega) (by omega) (by omega)⟩
set_option maxHeartbeats 4000000 in
theorem ok_X8_make_v1 {v_alphabet_begins : Nat → Int32} {v_one_count : Int32} {v_one_stamp : Int32} {v_one_stackCount : Int32} {v_one_program_start : Int32} {v_one_program_kinds : Nat → Int32} {v_one_program_subjects : Nat → Int32} {v_one_program_nexts : Nat → Int32} {v_one_program_others : Nat → Int32} {v_one_positionOf : Nat → Int32} {v_one_pcOf : Nat → Int32} {v_one_follow : Nat → Int64} {v_one_takers : Nat → Int64} {v_one_seen : Nat → Int32} {v_one_stack : Nat → Int32} {v_one_states : Nat → Int64} {v_one_ahead : Nat → Int64} {v_one_goes : Nat → Int32} {a1_there : Bool} {a1_count : Int32} {a1_captures : Int32} {a1_ranges : Int32} {a1_sort : Nat → Int32} {a1_end : Nat → Int32} {a1_before : Nat → Int32} {a1_last : Nat → Int32} {a1_parts : Nat → Int32} {a1_value : Nat → Int32} {a1_low : Nat → Int32} {a1_high : Nat → Int32} {a1_withinCase : Nat → Bool} {a1_rangeBegin : Nat → Int32} {a1_rangeEnd : Nat → Int32} {Q : Int32 → Int32 → (Nat → Int32) → Int32 → Int32 → Int32 → Int32 → Int32 → Int32 → Int32 → (Nat → Int32) → (Nat → Int32) → (Nat → Int32) → (Nat → Int32) → (Nat → Int32) → (Nat → Int32) → (Nat → Int64) → (Nat → Int64) → (Nat → Int32) → (Nat → Int32) → (Nat → Int64) → (Nat → Int64) → (Nat → Int32) → Prop} (a0 : 0 ≤ v_one_count.toInt) (a1 : v_one_count.toInt ≤ 60) (a2 : 0 ≤ a1_count.toInt) (a3 : a1_count.toInt ≤ 256) (a4 : 0 ≤ a1_ranges.toInt) (a5 : a1_ranges.toInt ≤ 512) (b0 : rp (fun k v => -1 ≤ v ∧ v ≤ 255) a1_last 0 a1_count.toInt) (b1 : rp (fun k v => k < v ∧ v ≤ 256) a1_end 0 a1_count.toInt) (b2 : rp (fun k v => v < k ∧ -1 ≤ v) a1_before 0 a1_count.toInt) (hq : ∀ (r : Int32) (ov_alphabet_count : Int32) (ov_alphabet_begins : Nat → Int32) (ov_one_count : Int32) (ov_one_positionCount : Int32) (ov_one_stamp : Int32) (ov_one_stackCount : Int32) (ov_one_width : Int32) (ov_one_program_start : Int32) (ov_one_program_count : Int32) (ov_one_program_kinds : Nat → Int32) (ov_one_program_subjects : Nat → Int32) (ov_one_program_nexts : Nat → Int32) (ov_one_program_others : Nat → Int32) (ov_one_positionOf : Nat → Int32) (ov_one_pcOf : Nat → Int32) (ov_one_follow : Nat → Int64) (ov_one_takers : Nat → Int64) (ov_one_seen : Nat → Int32) (ov_one_stack : Nat → Int32) (ov_one_states : Nat → Int64) (ov_one_ahead : Nat → Int64) (ov_one_goes : Nat → Int32), 0 ≤ ov_alphabet_count.toInt + 1 → 0 ≤ ov_alphabet_count.toInt → ov_alphabet_count.toInt ≤ 256 → 1 ≤ ov_alphabet_count.toInt → 0 ≤ ov_one_program_count.toInt → ov_one_program_count.toInt ≤ 512 → ((ov_one_width.toInt = 256 ∧ 256 ≤ ov_alphabet_count.toInt) ∨ (ov_one_width.toInt = ov_alphabet_count.toInt ∧ ov_alphabet_count.toInt ≤ 256)) → 0 ≤ ov_one_positionCount.toInt + 1 → 0 ≤ ov_one_positionCount.toInt → ov_one_positionCount.toInt ≤ 60 → ov_one_positionCount.toInt ≤ 61 → ov_one_positionCount.toInt ≤ ov_one_program_count.toInt → ov_one_positionCount.toInt ≤ ov_one_program_count.toInt + 1 → 0 ≤ ov_one_width.toInt → ov_one_width.toInt ≤ 256 → 0 ≤ ov_one_stackCount.toInt + 1 → 0 ≤ ov_one_stackCount.toInt → 0 ≤ ov_one_count.toInt + 1 → 0 ≤ ov_one_count.toInt → 1 ≤ ov_one_count.toInt → ov_one_count.toInt ≤ 60 → ov_one_count.toInt ≤ 61 → 0 ≤ r.toInt → r.toInt ≤ 1 → Q r ov_alphabet_count ov_alphabet_begins ov_one_count ov_one_positionCount ov_one_stamp ov_one_stackCount ov_one_width ov_one_program_start ov_one_program_count ov_one_program_kinds ov_one_program_subjects ov_one_program_nexts ov_one_program_others ov_one_positionOf ov_one_pcOf ov_one_follow ov_one_takers ov_one_seen ov_one_stack ov_one_states ov_one_ahead ov_one_goes) : w_X8_make_v1 v_alphabet_begins v_one_count v_one_stamp v_one_stackCount v_one_program_start v_one_program_kinds v_one_program_subjects v_one_program_nexts v_one_program_others v_one_positionOf v_one_pcOf v_one_follow v_one_takers v_one_seen v_one_stack v_one_states v_one_ahead v_one_goes a1_there a1_count a1_captures a1_ranges a1_sort a1_end a1_before a1_last a1_parts a1_value a1_low a1_high a1_withinCase a1_rangeBegin a1_rangeEnd Q := by
  have q_t : (bz true).toInt = 1 := rfl
  have q_f : (bz false).toInt = 0 := rfl
  have q_0 : (0 : Int32).toInt = 0 := rfl
  have q_1 : (1 : Int32).toInt = 1 := rfl
  unfold w_X8_make_v1
  refine ok_X0_gather_v1 (by omega) (by omega) (by omega) (by omega) (fun r6_0 r6_1 f1 f2 f3 f4 => ?_)
  refine ok_X9_make_v1 (by omega) (by omega) (by omega) (by omega) (by omega) (by omega) (by omega) (by omega) (rp_mono b0 (by omega) (by omega)) (rp_mono b1 (by omega) (by omega)) (rp_mono b2 (by omega) (by omega)) (fun r18 r18_0 r18_1 r18_2 r18_3 r18_4 r18_5 r18_6 r18_7 r18_8 r18_9 r18_10 r18_11 r18_12 r18_13 r18_14 r18_15 r18_16 r18_17 r18_18 r18_19 f5 f6 f7 f8 f9 f10 f11 f12 f13 f14 f15 f16 f17 f18 f19 f20 f21 f22 f23 f24 f25 f26 f27 f28 f29 f30 f31 f32 f33 f34 f35 f36 => ?_)
  have j_100048 : ∀ (s0_100048 : Int32), ((s0_100048.toInt = 0 ∧ r18.toInt = 0) ∨ (s0_100048.toInt = 1)) → w_X8_make_v1_100048 Q s0_100048 r6_0 r6_1 r18_0 r18_1 r18_2 r18_3 r18_4 r18_5 r18_6 r18_7 r18_8 r18_9 r18_10 r18_11 r18_12 r18_13 r18_14 r18_15 r18_16 r18_17 r18_18 r18_19 := by
    intro s0_100048 f37
    unfold w_X8_make_v1_100048
    refine ⟨i_01 (by omega) (by omega), ?_⟩
    exact hq s0_100048 r6_0 r6_1 r18_0 r18_1 r18_2 r18_3 r18_4 r18_5 r18_6 r18_7 r18_8 r18_9 r18_10 r18_11 r18_12 r18_13 r18_14 r18_15 r18_16 r18_17 r18_18 r18_19 (by omega) (by omega) (by omega) (by omega) (by omega) (by omega) (by omega) (by omega) (by omega) (by omega) (by omega) (by omega) (by omega) (by omega) (by omega) (by omega) (by omega) (by omega) (by omega) (by omega) (by omega) (by omega) (by omega) (by omega)
  refine ⟨fun c100021 => ?_, fun c100021 => ?_⟩
  · have f38 : r18.toInt = 0 := i_eq (a := r18.toInt) (b := 0) rfl rfl c100021
    exact j_100048 0 (by omega)
  · have f39 : r18.toInt ≠ 0 := i_ne (a := r18.toInt) (b := 0) rfl rfl c100021
    exact j_100048 1 (by omega)
set_option maxHeartbeats 4000000 in
theorem ok_X11_makeTables {v_sets_alphabet_count : Int32} {v_sets_alphabet_begins : Nat → Int32} {v_sets_one_count : Int32} {v_sets_one_positionCount : Int32} {v_sets_one_stamp : Int32} {v_sets_one_stackCount : Int32} {v_sets_one_width : Int32} {v_sets_one_program_start : Int32} {v_sets_one_program_count : Int32} {v_sets_one_program_kinds : Nat → Int32} {v_sets_one_program_subjects : Nat → Int32} {v_sets_one_program_nexts : Nat → Int32} {v_sets_one_program_others : Nat → Int32} {v_sets_one_positionOf : Nat → Int32} {v_sets_one_pcOf : Nat → Int32} {v_sets_one_follow : Nat → Int64} {v_sets_one_takers : Nat → Int64} {v_sets_one_seen : Nat → Int32} {v_sets_one_stack : Nat → Int32} {v_sets_one_states : Nat → Int64} {v_sets_one_ahead : Nat → Int64} {v_sets_one_goes : Nat → Int32} {a1_there : Bool} {a1_count : Int32} {a1_captures : Int32} {a1_ranges : Int32} {a1_sort : Nat → Int32} {a1_end : Nat → Int32} {a1_before : Nat → Int32} {a1_last : Nat → Int32} {a1_parts : Nat → Int32} {a1_value : Nat → Int32} {a1_low : Nat → Int32} {a1_high : Nat → Int32} {a1_size : Nat → Int32} {a1_positions : Nat → Int32} {a1_mayBeEmpty : Nat → Bool} {a1_withinCase : Nat → Bool} {a1_rangeBegin : Nat → Int32} {a1_rangeEnd : Nat → Int32} {h53 : Nat} {h1 : Nat} {Q : Int32 → Int32 → (Nat → Int32) → Int32 → Int32 → Int32 → Int32 → Int32 → Int32 → Int32 → Nat → (Nat → Int32) → (Nat → Int32) → (Nat → Int32) → (Nat → Int32) → (Nat → Int32) → (Nat → Int32) → (Nat → Int64) → (Nat → Int64) → (Nat → Int32) → (Nat → Int32) → (Nat → Int64) → (Nat → Int64) → (Nat → Int32) → Prop} (a0 : 0 ≤ v_sets_alphabet_count.toInt) (a1 : v_sets_alphabet_count.toInt ≤ 256) (a2 : 0 ≤ v_sets_one_count.toInt) (a3 : v_sets_one_count.toInt ≤ 60) (a4 : 0 ≤ v_sets_one_positionCount.toInt) (a5 : v_sets_one_positionCount.toInt ≤ 60) (a6 : 0 ≤ v_sets_one_width.toInt) (a7 : v_sets_one_width.toInt ≤ 256) (a8 : 0 ≤ v_sets_one_program_count.toInt) (a9 : v_sets_one_program_count.toInt ≤ 512) (a10 : 0 ≤ a1_count.toInt) (a11 : a1_count.toInt ≤ 256) (a12 : 0 ≤ a1_ranges.toInt) (a13 : a1_ranges.toInt ≤ 512) (b0 : rp (fun k v => -1 ≤ v ∧ v ≤ 255) a1_last 0 a1_count.toInt) (b1 : rp (fun k v => k < v ∧ v ≤ 256) a1_end 0 a1_count.toInt) (b2 : rp (fun k v => v < k ∧ -1 ≤ v) a1_before 0 a1_count.toInt) (hq : ∀ (r : Int32) (ov_sets_alphabet_count : Int32) (ov_sets_alphabet_begins : Nat → Int32) (ov_sets_one_count : Int32) (ov_sets_one_positionCount : Int32) (ov_sets_one_stamp : Int32) (ov_sets_one_stackCount : Int32) (ov_sets_one_width : Int32) (ov_sets_one_program_start : Int32) (ov_sets_one_program_count : Int32) (oh53 : Nat) (ov_sets_one_program_kinds : Nat → Int32) (ov_sets_one_program_subjects : Nat → Int32) (ov_sets_one_program_nexts : Nat → Int32) (ov_sets_one_program_others : Nat → Int32) (ov_sets_one_positionOf : Nat → Int32) (ov_sets_one_pcOf : Nat → Int32) (ov_sets_one_follow : Nat → Int64) (ov_sets_one_takers : Nat → Int64) (ov_sets_one_seen : Nat → Int32) (ov_sets_one_stack : Nat → Int32) (ov_sets_one_states : Nat → Int64) (ov_sets_one_ahead : Nat → Int64) (ov_sets_one_goes : Nat → Int32), 0 ≤ r.toInt + 7 → r.toInt ≤ 0 → 0 ≤ ov_sets_alphabet_count.toInt → ov_sets_alphabet_count.toInt ≤ 256 → 0 ≤ ov_sets_one_count.toInt → ov_sets_one_count.toInt ≤ 60 → 0 ≤ ov_sets_one_positionCount.toInt → ov_sets_one_positionCount.toInt ≤ 60 → 0 ≤ ov_sets_one_width.toInt → ov_sets_one_width.toInt ≤ 256 → 0 ≤ ov_sets_one_program_count.toInt → ov_sets_one_program_count.toInt ≤ 512 → Q r ov_sets_alphabet_count ov_sets_alphabet_begins ov_sets_one_count ov_sets_one_positionCount ov_sets_one_stamp ov_sets_one_stackCount ov_sets_one_width ov_sets_one_program_start ov_sets_one_program_count oh53 ov_sets_one_program_kinds ov_sets_one_program_subjects ov_sets_one_program_nexts ov_sets_one_program_others ov_sets_one_positionOf ov_sets_one_pcOf ov_sets_one_follow ov_sets_one_takers ov_sets_one_seen ov_sets_one_stack ov_sets_one_states ov_sets_one_ahead ov_sets_one_goes) : w_X11_makeTables v_sets_alphabet_count v_sets_alphabet_begins v_sets_one_count v_sets_one_positionCount v_sets_one_stamp v_sets_one_stackCount v_sets_one_width v_sets_one_program_start v_sets_one_program_count v_sets_one_program_kinds v_sets_one_program_subjects v_sets_one_program_nexts v_sets_one_program_others v_sets_one_positionOf v_sets_one_pcOf v_sets_one_follow v_sets_one_takers v_sets_one_seen v_sets_one_stack v_sets_one_states v_sets_one_ahead v_sets_one_goes a1_there a1_count a1_captures a1_ranges a1_sort a1_end a1_before a1_last a1_parts a1_value a1_low a1_high a1_size a1_positions a1_mayBeEmpty a1_withinCase a1_rangeBegin a1_rangeEnd h53 h1 Q := by
  have q_t : (bz true).toInt = 1 := rfl
  have q_f : (bz false).toInt = 0 := rfl
  have q_m7 : ((-7) : Int32).toInt = (-7) := rfl
  have q_m6 : ((-6) : Int32).toInt = (-6) := rfl
  have q_0 : (0 : Int32).toInt = 0 := rfl
  have q_2 : (2 : Int32).toInt = 2 := rfl
  unfold w_X11_makeTables
  refine ok_X10_isTakenBy (by omega) (by omega) (rp_mono b1 (by omega) (by omega)) (fun r2 f501 => ?_)
  refine ⟨fun c5 => ?_, fun c5 => ?_⟩
  · have f502 : r2.toInt = 0 := i_eq (a := r2.toInt) (b := 0) rfl rfl c5
    exact hq (-6) v_sets_alphabet_count v_sets_alphabet_begins v_sets_one_count v_sets_one_positionCount v_sets_one_stamp v_sets_one_stackCount v_sets_one_width v_sets_one_program_start v_sets_one_program_count h53 v_sets_one_program_kinds v_sets_one_program_subjects v_sets_one_program_nexts v_sets_one_program_others v_sets_one_positionOf v_sets_one_pcOf v_sets_one_follow v_sets_one_takers v_sets_one_seen v_sets_one_stack v_sets_one_states v_sets_one_ahead v_sets_one_goes (by omega) (by omega) (by omega) (by omega) (by omega) (by omega) (by omega) (by omega) (by omega) (by omega) (by omega) (by omega)
  · have f503 : r2.toInt ≠ 0 := i_ne (a := r2.toInt) (b := 0) rfl rfl c5
    refine ok_X10_isTooLargeFor (by omega) (by omega) (fun r25 f504 f505 f506 => ?_)
    refine ⟨fun c28 => ?_, fun c28 => ?_⟩
    · have f507 : r25.toInt ≠ 0 := i_ne (a := r25.toInt) (b := 0) rfl rfl c28
      exact hq (-7) v_sets_alphabet_count v_sets_alphabet_begins v_sets_one_count v_sets_one_positionCount v_sets_one_stamp v_sets_one_stackCount v_sets_one_width v_sets_one_program_start v_sets_one_program_count h53 v_sets_one_program_kinds v_sets_one_program_subjects v_sets_one_program_nexts v_sets_one_program_others v_sets_one_positionOf v_sets_one_pcOf v_sets_one_follow v_sets_one_takers v_sets_one_seen v_sets_one_stack v_sets_one_states v_sets_one_ahead v_sets_one_goes (by omega) (by omega) (by omega) (by omega) (by omega) (by omega) (by omega) (by omega) (by omega) (by omega) (by omega) (by omega)
    · have f508 : r25.toInt = 0 := i_eq (a := r25.toInt) (b := 0) rfl rfl c28
      refine ok_X8_make_v1 (by omega) (by omega) (by omega) (by omega) (by omega) (by omega) (rp_mono b0 (by omega) (by omega)) (rp_mono b1 (by omega) (by omega)) (rp_mono b2 (by omega) (by omega)) (fun r52 r52_0 r52_1 r52_2 r52_3 r52_4 r52_5 r52_6 r52_7 r52_8 r52_9 r52_10 r52_11 r52_12 r52_13 r52_14 r52_15 r52_16 r52_17 r52_18 r52_19 r52_20 r52_21 f509 f510 f511 f512 f513 f514 f515 f516 f517 f518 f519 f520 f521 f522 f523 f524 f525 f526 f527 f528 f529 f530 f531 f532 => ?_)
      have j_100064 : ∀ (s0_100064 : Int32), ((s0_100064.toInt + 7 = 0 ∧ r52.toInt = 0) ∨ (s0_100064.toInt = 0)) → w_X11_makeTables_100064 h1 Q s0_100064 r52_0 r52_1 r52_2 r52_3 r52_4 r52_5 r52_6 r52_7 r52_8 r52_9 r52_10 r52_11 r52_12 r52_13 r52_14 r52_15 r52_16 r52_17 r52_18 r52_19 r52_20 r52_21 := by
        intro s0_100064 f533
        unfold w_X11_makeTables_100064
        exact hq s0_100064 r52_0 r52_1 r52_2 r52_3 r52_4 r52_5 r52_6 r52_7 r52_8 h1 r52_9 r52_10 r52_11 r52_12 r52_13 r52_14 r52_15 r52_16 r52_17 r52_18 r52_19 r52_20 r52_21 (by omega) (by omega) (by omega) (by omega) (by omega) (by omega) (by omega) (by omega) (by omega) (by omega) (by omega) (by omega)
      refine ⟨fun c100055 => ?_, fun c100055 => ?_⟩
      · have f534 : r52.toInt = 0 := i_eq (a := r52.toInt) (b := 0) rfl rfl c100055
        exact j_100064 (-7) (by omega)
      · have f535 : r52.toInt ≠ 0 := i_ne (a := r52.toInt) (b := 0) rfl rfl c100055
        exact j_100064 0 (by omega)
set_option maxHeartbeats 4000000 in
theorem ok_X11_table {p1 : Int32} {v_latestFinding : Int32} {v_patterns : Nat → Option Nat} {v_sets_alphabet_count : Int32} {v_sets_alphabet_begins : Nat → Int32} {v_sets_one_count : Int32} {v_sets_one_positionCount : Int32} {v_sets_one_stamp : Int32} {v_sets_one_stackCount : Int32} {v_sets_one_width : Int32} {v_sets_one_program_start : Int32} {v_sets_one_program_count : Int32} {v_sets_one_program_kinds : Nat → Int32} {v_sets_one_program_subjects : Nat → Int32} {v_sets_one_program_nexts : Nat → Int32} {v_sets_one_program_others : Nat → Int32} {v_sets_one_positionOf : Nat → Int32} {v_sets_one_pcOf : Nat → Int32} {v_sets_one_follow : Nat → Int64} {v_sets_one_takers : Nat → Int64} {v_sets_one_seen : Nat → Int32} {v_sets_one_stack : Nat → Int32} {v_sets_one_states : Nat → Int64} {v_sets_one_ahead : Nat → Int64} {v_sets_one_goes : Nat → Int32} {v_patterns_p1_there : Bool} {v_patterns_p1_count : Int32} {v_patterns_p1_captures : Int32} {v_patterns_p1_ranges : Int32} {v_patterns_p1_sort : Nat → Int32} {v_patterns_p1_end : Nat → Int32} {v_patterns_p1_before : Nat → Int32} {v_patterns_p1_last : Nat → Int32} {v_patterns_p1_parts : Nat → Int32} {v_patterns_p1_value : Nat → Int32} {v_patterns_p1_low : Nat → Int32} {v_patterns_p1_high : Nat → Int32} {v_patterns_p1_size : Nat → Int32} {v_patterns_p1_positions : Nat → Int32} {v_patterns_p1_mayBeEmpty : Nat → Bool} {v_patterns_p1_withinCase : Nat → Bool} {v_patterns_p1_rangeBegin : Nat → Int32} {v_patterns_p1_rangeEnd : Nat → Int32} {h58 : Nat} {h20 : Nat} {Q : Int32 → Int32 → Int32 → (Nat → Int32) → Int32 → Int32 → Int32 → Int32 → Int32 → Int32 → Int32 → Nat → (Nat → Int32) → (Nat → Int32) → (Nat → Int32) → (Nat → Int32) → (Nat → Int32) → (Nat → Int32) → (Nat → Int64) → (Nat → Int64) → (Nat → Int32) → (Nat → Int32) → (Nat → Int64) → (Nat → Int64) → (Nat → Int32) → Prop} (a0 : 0 ≤ v_sets_alphabet_count.toInt) (a1 : v_sets_alphabet_count.toInt ≤ 256) (a2 : 0 ≤ v_sets_one_count.toInt) (a3 : v_sets_one_count.toInt ≤ 60) (a4 : 0 ≤ v_sets_one_positionCount.toInt) (a5 : v_sets_one_positionCount.toInt ≤ 60) (a6 : 0 ≤ v_sets_one_width.toInt) (a7 : v_sets_one_width.toInt ≤ 256) (a8 : 0 ≤ v_sets_one_program_count.toInt) (a9 : v_sets_one_program_count.toInt ≤ 512) (a10 : 0 ≤ v_patterns_p1_count.toInt) (a11 : v_patterns_p1_count.toInt ≤ 256) (a12 : 0 ≤ v_patterns_p1_ranges.toInt) (a13 : v_patterns_p1_ranges.toInt ≤ 512) (b0 : rp (fun k v => -1 ≤ v ∧ v ≤ 255) v_patterns_p1_last 0 v_patterns_p1_count.toInt) (b1 : rp (fun k v => k < v ∧ v ≤ 256) v_patterns_p1_end 0 v_patterns_p1_count.toInt) (b2 : rp (fun k v => v < k ∧ -1 ≤ v) v_patterns_p1_before 0 v_patterns_p1_count.toInt) (v0 : 0 ≤ p1.toInt → p1.toInt < 6 → v_patterns p1.toNatClampNeg = some h20) (hq : ∀ (r : Int32) (ov_latestFinding : Int32) (ov_sets_alphabet_count : Int32) (ov_sets_alphabet_begins : Nat → Int32) (ov_sets_one_count : Int32) (ov_sets_one_positionCount : Int32) (ov_sets_one_stamp : Int32) (ov_sets_one_stackCount : Int32) (ov_sets_one_width : Int32) (ov_sets_one_program_start : Int32) (ov_sets_one_program_count : Int32) (oh58 : Nat) (ov_sets_one_program_kinds : Nat → Int32) (ov_sets_one_program_subjects : Nat → Int32) (ov_sets_one_program_nexts : Nat → Int32) (ov_sets_one_program_others : Nat → Int32) (ov_sets_one_positionOf : Nat → Int32) (ov_sets_one_pcOf : Nat → Int32) (ov_sets_one_follow : Nat → Int64) (ov_sets_one_takers : Nat → Int64) (ov_sets_one_seen : Nat → Int32) (ov_sets_one_stack : Nat → Int32) (ov_sets_one_states : Nat → Int64) (ov_sets_one_ahead : Nat → Int64) (ov_sets_one_goes : Nat → Int32), 0 ≤ r.toInt + 7 → r.toInt ≤ 60 → 0 ≤ ov_sets_alphabet_count.toInt → ov_sets_alphabet_count.toInt ≤ 256 → 0 ≤ ov_sets_one_count.toInt → ov_sets_one_count.toInt ≤ 60 → 0 ≤ ov_sets_one_positionCount.toInt → ov_sets_one_positionCount.toInt ≤ 60 → 0 ≤ ov_sets_one_width.toInt → ov_sets_one_width.toInt ≤ 256 → 0 ≤ ov_sets_one_program_count.toInt → ov_sets_one_program_count.toInt ≤ 512 → Q r ov_latestFinding ov_sets_alphabet_count ov_sets_alphabet_begins ov_sets_one_count ov_sets_one_positionCount ov_sets_one_stamp ov_sets_one_stackCount ov_sets_one_width ov_sets_one_program_start ov_sets_one_program_count oh58 ov_sets_one_program_kinds ov_sets_one_program_subjects ov_sets_one_program_nexts ov_sets_one_program_others ov_sets_one_positionOf ov_sets_one_pcOf ov_sets_one_follow ov_sets_one_takers ov_sets_one_seen ov_sets_one_stack ov_sets_one_states ov_sets_one_ahead ov_sets_one_goes) : w_X11_table p1 v_latestFinding v_patterns v_sets_alphabet_count v_sets_alphabet_begins v_sets_one_count v_sets_one_positionCount v_sets_one_stamp v_sets_one_stackCount v_sets_one_width v_sets_one_program_start v_sets_one_program_count v_sets_one_program_kinds v_sets_one_program_subjects v_sets_one_program_nexts v_sets_one_program_others v_sets_one_positionOf v_sets_one_pcOf v_sets_one_follow v_sets_one_takers v_sets_one_seen v_sets_one_stack v_sets_one_states v_sets_one_ahead v_sets_one_goes v_patterns_p1_there v_patterns_p1_count v_patterns_p1_captures v_patterns_p1_ranges v_patterns_p1_sort v_patterns_p1_end v_patterns_p1_before v_patterns_p1_last v_patterns_p1_parts v_patterns_p1_value v_patterns_p1_low v_patterns_p1_high v_patterns_p1_size v_patterns_p1_positions v_patterns_p1_mayBeEmpty v_patterns_p1_withinCase v_patterns_p1_rangeBegin v_patterns_p1_rangeEnd h58 h20 Q := by
  have q_t : (bz true).toInt = 1 := rfl
  have q_f : (bz false).toInt = 0 := rfl
  have q_m2 : ((-2) : Int32).toInt = (-2) := rfl
  unfold w_X11_table
  refine ok_X11_patternIn v0 (fun r2 r2_0 f501 f502 => ?_)
  refine ⟨fun c2 => ?_, fun c2 => ?_⟩
  · have f503 : r2.toInt = 0 := i_eq (a := r2.toInt) (b := 0) rfl rfl c2
    exact hq (-2) r2_0 v_sets_alphabet_count v_sets_alphabet_begins v_sets_one_count v_sets_one_positionCount v_sets_one_stamp v_sets_one_stackCount v_sets_one_width v_sets_one_program_start v_sets_one_program_count h58 v_sets_one_program_kinds v_sets_one_program_subjects v_sets_one_program_nexts v_sets_one_program_others v_sets_one_positionOf v_sets_one_pcOf v_sets_one_follow v_sets_one_takers v_sets_one_seen v_sets_one_stack v_sets_one_states v_sets_one_ahead v_sets_one_goes (by omega) (by omega) (by omega) (by omega) (by omega) (by omega) (by omega) (by omega) (by omega) (by omega) (by omega) (by omega)
  · have f504 : r2.toInt ≠ 0 := i_ne (a := r2.toInt) (b := 0) rfl rfl c2
    refine ok_X11_makeTables (by omega) (by omega) (by omega) (by omega) (by omega) (by omega) (by omega) (by omega) (by omega) (by omega) (by omega) (by omega) (by omega) (by omega) (rp_mono b0 (by omega) (by omega)) (rp_mono b1 (by omega) (by omega)) (rp_mono b2 (by omega) (by omega)) (fun r200016 r200016_0 r200016_1 r200016_2 r200016_3 r200016_4 r200016_5 r200016_6 r200016_7 r200016_8 r200016_9 r200016_10 r200016_11 r200016_12 r200016_13 r200016_14 r200016_15 r200016_16 r200016_17 r200016_18 r200016_19 r200016_20 r200016_21 r200016_22 f505 f506 f507 f508 f509 f510 f511 f512 f513 f514 f515 f516 => ?_)
    have j_200038 : ∀ (s0_200038 : Int32), ((s0_200038.toInt = r200016_2.toInt ∧ r200016.toInt = 0) ∨ (s0_200038.toInt = r200016.toInt)) → w_X11_table_200038 Q s0_200038 r2_0 r200016_0 r200016_1 r200016_2 r200016_3 r200016_4 r200016_5 r200016_6 r200016_7 r200016_8 r200016_9 r200016_10 r200016_11 r200016_12 r200016_13 r200016_14 r200016_15 r200016_16 r200016_17 r200016_18 r200016_19 r200016_20 r200016_21 r200016_22 := by
      intro s0_200038 f517
      unfold w_X11_table_200038
      exact hq s0_200038 r2_0 r200016_0 r200016_1 r200016_2 r200016_3 r200016_4 r200016_5 r200016_6 r200016_7 r200016_8 r200016_9 r200016_10 r200016_11 r200016_12 r200016_13 r200016_14 r200016_15 r200016_16 r200016_17 r200016_18 r200016_19 r200016_20 r200016_21 r200016_22 (by omega) (by omega) (by omega) (by omega) (by omega) (by omega) (by omega) (by omega) (by omega) (by omega) (by omega) (by omega)
    refine ⟨fun c200021 => ?_, fun c200021 => ?_⟩
    · have f518 : r200016.toInt = 0 := i_eq (a := r200016.toInt) (b := 0) rfl rfl c200021
      exact j_200038 r200016_2 (by omega)
    · have f519 : r200016.toInt ≠ 0 := i_ne (a := r200016.toInt) (b := 0) rfl rfl c200021
      exact j_200038 r200016 (by omega)
set_option maxHeartbeats 4000000 in
theorem ok_X11_least {p1 : Int32} {v_latestFinding : Int32} {v_patterns : Nat → Option Nat} {v_sets_alphabet_count : Int32} {v_sets_alphabet_begins : Nat → Int32} {v_sets_one_count : Int32} {v_sets_one_positionCount : Int32} {v_sets_one_stamp : Int32} {v_sets_one_stackCount : Int32} {v_sets_one_width : Int32} {v_sets_one_program_start : Int32} {v_sets_one_program_count : Int32} {v_sets_one_program_kinds : Nat → Int32} {v_sets_one_program_subjects : Nat → Int32} {v_sets_one_program_nexts : Nat → Int32} {v_sets_one_program_others : Nat → Int32} {v_sets_one_positionOf : Nat → Int32} {v_sets_one_pcOf : Nat → Int32} {v_sets_one_follow : Nat → Int64} {v_sets_one_takers : Nat → Int64} {v_sets_one_seen : Nat → Int32} {v_sets_one_stack : Nat → Int32} {v_sets_one_states : Nat → Int64} {v_sets_one_ahead : Nat → Int64} {v_sets_one_goes : Nat → Int32} {v_sets_one_groups : Nat → Int32} {v_sets_one_finer : Nat → Int32} {v_patterns_p1_there : Bool} {v_patterns_p1_count : Int32} {v_patterns_p1_captures : Int32} {v_patterns_p1_ranges : Int32} {v_patterns_p1_sort : Nat → Int32} {v_patterns_p1_end : Nat → Int32} {v_patterns_p1_before : Nat → Int32} {v_patterns_p1_last : Nat → Int32} {v_patterns_p1_parts : Nat → Int32} {v_patterns_p1_value : Nat → Int32} {v_patterns_p1_low : Nat → Int32} {v_patterns_p1_high : Nat → Int32} {v_patterns_p1_size : Nat → Int32} {v_patterns_p1_positions : Nat → Int32} {v_patterns_p1_mayBeEmpty : Nat → Bool} {v_patterns_p1_withinCase : Nat → Bool} {v_patterns_p1_rangeBegin : Nat → Int32} {v_patterns_p1_rangeEnd : Nat → Int32} {h58 : Nat} {h22 : Nat} {Q : Int32 → Int32 → Int32 → (Nat → Int32) → Int32 → Int32 → Int32 → Int32 → Int32 → Int32 → Int32 → Nat → (Nat → Int32) → (Nat → Int32) → (Nat → Int32) → (Nat → Int32) → (Nat → Int32) → (Nat → Int32) → (Nat → Int64) → (Nat → Int64) → (Nat → Int32) → (Nat → Int32) → (Nat → Int64) → (Nat → Int64) → (Nat → Int32) → (Nat → Int32) → (Nat → Int32) → Prop} (a0 : 0 ≤ v_sets_alphabet_count.toInt) (a1 : v_sets_alphabet_count.toInt ≤ 256) (a2 : 0 ≤ v_sets_one_count.toInt) (a3 : v_sets_one_count.toInt ≤ 60) (a4 : 0 ≤ v_sets_one_positionCount.toInt) (a5 : v_sets_one_positionCount.toInt ≤ 60) (a6 : 0 ≤ v_sets_one_width.toInt) (a7 : v_sets_one_width.toInt ≤ 256) (a8 : 0 ≤ v_sets_one_program_count.toInt) (a9 : v_sets_one_program_count.toInt ≤ 512) (a10 : 0 ≤ v_patterns_p1_count.toInt) (a11 : v_patterns_p1_count.toInt ≤ 256) (a12 : 0 ≤ v_patterns_p1_ranges.toInt) (a13 : v_patterns_p1_ranges.toInt ≤ 512) (b0 : rp (fun k v => -1 ≤ v ∧ v ≤ 255) v_patterns_p1_last 0 v_patterns_p1_count.toInt) (b1 : rp (fun k v => k < v ∧ v ≤ 256) v_patterns_p1_end 0 v_patterns_p1_count.toInt) (b2 : rp (fun k v => v < k ∧ -1 ≤ v) v_patterns_p1_before 0 v_patterns_p1_count.toInt) (v0 : 0 ≤ p1.toInt → p1.toInt < 6 → v_patterns p1.toNatClampNeg = some h22) (hq : ∀ (r : Int32) (ov_latestFinding : Int32) (ov_sets_alphabet_count : Int32) (ov_sets_alphabet_begins : Nat → Int32) (ov_sets_one_count : Int32) (ov_sets_one_positionCount : Int32) (ov_sets_one_stamp : Int32) (ov_sets_one_stackCount : Int32) (ov_sets_one_width : Int32) (ov_sets_one_program_start : Int32) (ov_sets_one_program_count : Int32) (oh58 : Nat) (ov_sets_one_program_kinds : Nat → Int32) (ov_sets_one_program_subjects : Nat → Int32) (ov_sets_one_program_nexts : Nat → Int32) (ov_sets_one_program_others : Nat → Int32) (ov_sets_one_positionOf : Nat → Int32) (ov_sets_one_pcOf : Nat → Int32) (ov_sets_one_follow : Nat → Int64) (ov_sets_one_takers : Nat → Int64) (ov_sets_one_seen : Nat → Int32) (ov_sets_one_stack : Nat → Int32) (ov_sets_one_states : Nat → Int64) (ov_sets_one_ahead : Nat → Int64) (ov_sets_one_goes : Nat → Int32) (ov_sets_one_groups : Nat → Int32) (ov_sets_one_finer : Nat → Int32), 0 ≤ r.toInt + 7 → r.toInt ≤ 60 → 0 ≤ ov_sets_alphabet_count.toInt → ov_sets_alphabet_count.toInt ≤ 256 → 0 ≤ ov_sets_one_count.toInt → ov_sets_one_count.toInt ≤ 60 → 0 ≤ ov_sets_one_positionCount.toInt → ov_sets_one_positionCount.toInt ≤ 60 → 0 ≤ ov_sets_one_width.toInt → ov_sets_one_width.toInt ≤ 256 → 0 ≤ ov_sets_one_program_count.toInt → ov_sets_one_program_count.toInt ≤ 512 → Q r ov_latestFinding ov_sets_alphabet_count ov_sets_alphabet_begins ov_sets_one_count ov_sets_one_positionCount ov_sets_one_stamp ov_sets_one_stackCount ov_sets_one_width ov_sets_one_program_start ov_sets_one_program_count oh58 ov_sets_one_program_kinds ov_sets_one_program_subjects ov_sets_one_program_nexts ov_sets_one_program_others ov_sets_one_positionOf ov_sets_one_pcOf ov_sets_one_follow ov_sets_one_takers ov_sets_one_seen ov_sets_one_stack ov_sets_one_states ov_sets_one_ahead ov_sets_one_goes ov_sets_one_groups ov_sets_one_finer) : w_X11_least p1 v_latestFinding v_patterns v_sets_alphabet_count v_sets_alphabet_begins v_sets_one_count v_sets_one_positionCount v_sets_one_stamp v_sets_one_stackCount v_sets_one_width v_sets_one_program_start v_sets_one_program_count v_sets_one_program_kinds v_sets_one_program_subjects v_sets_one_program_nexts v_sets_one_program_others v_sets_one_positionOf v_sets_one_pcOf v_sets_one_follow v_sets_one_takers v_sets_one_seen v_sets_one_stack v_sets_one_states v_sets_one_ahead v_sets_one_goes v_sets_one_groups v_sets_one_finer v_patterns_p1_there v_patterns_p1_count v_patterns_p1_captures v_patterns_p1_ranges v_patterns_p1_sort v_patterns_p1_end v_patterns_p1_before v_patterns_p1_last v_patterns_p1_parts v_patterns_p1_value v_patterns_p1_low v_patterns_p1_high v_patterns_p1_size v_patterns_p1_positions v_patterns_p1_mayBeEmpty v_patterns_p1_withinCase v_patterns_p1_rangeBegin v_patterns_p1_rangeEnd h58 h22 Q := by
  have q_t : (bz true).toInt = 1 := rfl
  have q_f : (bz false).toInt = 0 := rfl
  have q_m2 : ((-2) : Int32).toInt = (-2) := rfl
  unfold w_X11_least
  refine ok_X11_patternIn v0 (fun r2 r2_0 f501 f502 => ?_)
  refine ⟨fun c2 => ?_, fun c2 => ?_⟩
  · have f503 : r2.toInt = 0 := i_eq (a := r2.toInt) (b := 0) rfl rfl c2
    exact hq (-2) r2_0 v_sets_alphabet_count v_sets_alphabet_begins v_sets_one_count v_sets_one_positionCount v_sets_one_stamp v_sets_one_stackCount v_sets_one_width v_sets_one_program_start v_sets_one_program_count h58 v_sets_one_program_kinds v_sets_one_program_subjects v_sets_one_program_nexts v_sets_one_program_others v_sets_one_positionOf v_sets_one_pcOf v_sets_one_follow v_sets_one_takers v_sets_one_seen v_sets_one_stack v_sets_one_states v_sets_one_ahead v_sets_one_goes v_sets_one_groups v_sets_one_finer (by omega) (by omega) (by omega) (by omega) (by omega) (by omega) (by omega) (by omega) (by omega) (by omega) (by omega) (by omega)
  · have f504 : r2.toInt ≠ 0 := i_ne (a := r2.toInt) (b := 0) rfl rfl c2
    refine ok_X11_makeTables (by omega) (by omega) (by omega) (by omega) (by omega) (by omega) (by omega) (by omega) (by omega) (by omega) (by omega) (by omega) (by omega) (by omega) (rp_mono b0 (by omega) (by omega)) (rp_mono b1 (by omega) (by omega)) (rp_mono b2 (by omega) (by omega)) (fun r200016 r200016_0 r200016_1 r200016_2 r200016_3 r200016_4 r200016_5 r200016_6 r200016_7 r200016_8 r200016_9 r200016_10 r200016_11 r200016_12 r200016_13 r200016_14 r200016_15 r200016_16 r200016_17 r200016_18 r200016_19 r200016_20 r200016_21 r200016_22 f505 f506 f507 f508 f509 f510 f511 f512 f513 f514 f515 f516 => ?_)
    have j_200038 : ∀ (s0_200038 : Int32) (v_sets_one_groups_200038 : Nat → Int32) (v_sets_one_finer_200038 : Nat → Int32), ((r200016.toInt = 0 ∧ 0 ≤ s0_200038.toInt + 1 ∧ 0 ≤ s0_200038.toInt ∧ s0_200038.toInt ≤ 60 ∧ s0_200038.toInt ≤ 61 ∧ s0_200038.toInt ≤ r200016_2.toInt ∧ s0_200038.toInt ≤ r200016_2.toInt + 1) ∨ (s0_200038.toInt = r200016.toInt)) → w_X11_least_200038 Q s0_200038 r2_0 r200016_0 r200016_1 r200016_2 r200016_3 r200016_4 r200016_5 r200016_6 r200016_7 r200016_8 r200016_9 r200016_10 r200016_11 r200016_12 r200016_13 r200016_14 r200016_15 r200016_16 r200016_17 r200016_18 r200016_19 r200016_20 r200016_21 r200016_22 v_sets_one_groups_200038 v_sets_one_finer_200038 := by
      intro s0_200038 v_sets_one_groups_200038 v_sets_one_finer_200038 f517
      unfold w_X11_least_200038
      exact hq s0_200038 r2_0 r200016_0 r200016_1 r200016_2 r200016_3 r200016_4 r200016_5 r200016_6 r200016_7 r200016_8 r200016_9 r200016_10 r200016_11 r200016_12 r200016_13 r200016_14 r200016_15 r200016_16 r200016_17 r200016_18 r200016_19 r200016_20 r200016_21 r200016_22 v_sets_one_groups_200038 v_sets_one_finer_200038 (by omega) (by omega) (by omega) (by omega) (by omega) (by omega) (by omega) (by omega) (by omega) (by omega) (by omega) (by omega)
    refine ⟨fun c200021 => ?_, fun c200021 => ?_⟩
    · have f518 : r200016.toInt = 0 := i_eq (a := r200016.toInt) (b := 0) rfl rfl c200021
      refine ok_X9_fewestStates (by omega) (by omega) (by omega) (by omega) (fun r200035 r200035_0 r200035_1 f519 f520 f521 f522 f523 f524 => ?_)
      exact j_200038 r200035 r200035_0 r200035_1 (by omega)
    · have f525 : r200016.toInt ≠ 0 := i_ne (a := r200016.toInt) (b := 0) rfl rfl c200021
      exact j_200038 r200016 v_sets_one_groups v_sets_one_finer (by omega)
set_option maxHeartbeats 4000000 in
theorem ok_X11_drop {p1 : Int32} {v_latestFinding : Int32} {v_openSlot : Int32} {v_openSubject : Int32} {v_subjects : Nat → Option Nat} {v_subjects_p1_count : Int32} {v_subjects_p1_over : Bool} {v_subjects_p1_there : Bool} {h2 : Nat} {Q : Int32 → Int32 → Int32 → Int32 → Int32 → Bool → Bool → Prop} (a0 : 0 ≤ v_subjects_p1_count.toInt) (v0 : 0 ≤ p1.toInt → p1.toInt < 4 → v_subjects p1.toNatClampNeg = some h2) (hq : ∀ (r : Int32) (ov_latestFinding : Int32) (ov_openSlot : Int32) (ov_openSubject : Int32) (ov_subjects_p1_count : Int32) (ov_subjects_p1_over : Bool) (ov_subjects_p1_there : Bool), r.toInt ≤ v_subjects_p1_count.toInt → ov_openSubject.toInt ≤ v_openSubject.toInt → ov_subjects_p1_count.toInt ≤ v_subjects_p1_count.toInt → ((ov_openSlot.toInt = v_openSlot.toInt ∧ ov_openSubject.toInt = v_openSubject.toInt ∧ ov_subjects_p1_count.toInt = v_subjects_p1_count.toInt ∧ (bz ov_subjects_p1_over).toInt = (bz v_subjects_p1_over).toInt ∧ (bz ov_subjects_p1_there).toInt = (bz v_subjects_p1_there).toInt) ∨ (r.toInt = v_subjects_p1_count.toInt ∧ ov_latestFinding.toInt = v_latestFinding.toInt ∧ (bz ov_subjects_p1_there).toInt = 0 ∧ ov_subjects_p1_count.toInt = 0 ∧ (bz ov_subjects_p1_over).toInt = 0)) → 0 ≤ r.toInt + 3 → ((ov_openSlot.toInt + 1 = 0) ∨ (ov_openSlot.toInt = v_openSlot.toInt)) → ((¬ (0 ≤ p1.toInt ∧ p1.toInt ≤ 3) ∧ r.toInt = -2 ∧ (ov_subjects_p1_count.toInt = v_subjects_p1_count.toInt ∧ (bz ov_subjects_p1_there).toInt = (bz v_subjects_p1_there).toInt)) ∨ ((0 ≤ p1.toInt ∧ p1.toInt ≤ 3) ∧ (bz v_subjects_p1_there).toInt = 0 ∧ r.toInt = -3 ∧ (ov_subjects_p1_count.toInt = v_subjects_p1_count.toInt ∧ (bz ov_subjects_p1_there).toInt = (bz v_subjects_p1_there).toInt)) ∨ ((0 ≤ p1.toInt ∧ p1.toInt ≤ 3) ∧ (bz v_subjects_p1_there).toInt = 1 ∧ r.toInt = v_subjects_p1_count.toInt ∧ ov_subjects_p1_count.toInt = 0 ∧ (bz ov_subjects_p1_there).toInt = 0)) → Q r ov_latestFinding ov_openSlot ov_openSubject ov_subjects_p1_count ov_subjects_p1_over ov_subjects_p1_there) : w_X11_drop p1 v_latestFinding v_openSlot v_openSubject v_subjects v_subjects_p1_count v_subjects_p1_over v_subjects_p1_there h2 Q := by
  have q_t : (bz true).toInt = 1 := rfl
  have q_f : (bz false).toInt = 0 := rfl
  unfold w_X11_drop
  refine ok_X11_subjectAt v0 (fun r2 f1 f2 f3 f4 f5 f6 f7 => ?_)
  refine ⟨fun c2 => ?_, fun c2 => ?_⟩
  · have f8 : r2.toInt = 0 := i_eq (a := r2.toInt) (b := 0) rfl rfl c2
    refine ok_X11_refusalOfSubject  (fun r100012 r100012_0 f9 f10 f11 f12 => ?_)
    exact hq r100012 r100012_0 v_openSlot v_openSubject v_subjects_p1_count v_subjects_p1_over v_subjects_p1_there (by omega) (by omega) (by omega) (by omega) (by omega) (by omega) (by omega)
  · have f13 : r2.toInt ≠ 0 := i_ne (a := r2.toInt) (b := 0) rfl rfl c2
    refine ok_X7_empty  (fun r200022_0 r200022_1 f14 f15 => ?_)
    refine ok_X11_endSearchOver  (fun r200032_0 r200032_1 f16 f17 => ?_)
    exact hq v_subjects_p1_count v_latestFinding r200032_0 r200032_1 r200022_0 r200022_1 false (by omega) (by omega) (by omega) (by omega) (by omega) (by omega) (by omega)
set_option maxHeartbeats 4000000 in
theorem ok_X11_patternsThere {v_patterns : Nat → Option Nat} {v_patterns_0_there : Bool} {v_patterns_1_there : Bool} {v_patterns_2_there : Bool} {v_patterns_3_there : Bool} {v_patterns_4_there : Bool} {v_patterns_5_there : Bool} {h2 : Nat} {h3 : Nat} {h4 : Nat} {h5 : Nat} {h6 : Nat} {h7 : Nat} {Q : Int32 → Prop} (v0 : v_patterns (0 : Int32).toNatClampNeg = some h2) (v1 : v_patterns (1 : Int32).toNatClampNeg = some h3) (v2 : v_patterns (2 : Int32).toNatClampNeg = some h4) (v3 : v_patterns (3 : Int32).toNatClampNeg = some h5) (v4 : v_patterns (4 : Int32).toNatClampNeg = some h6) (v5 : v_patterns (5 : Int32).toNatClampNeg = some h7) (hq : ∀ (r : Int32), 0 ≤ r.toInt → r.toInt ≤ 6 → Q r) : w_X11_patternsThere v_patterns v_patterns_0_there v_patterns_1_there v_patterns_2_there v_patterns_3_there v_patterns_4_there v_patterns_5_there h2 h3 h4 h5 h6 h7 Q := by
  have q_t : (bz true).toInt = 1 := rfl
  have q_f : (bz false).toInt = 0 := rfl
  have q_0 : (0 : Int32).toInt = 0 := rfl
  have q_1 : (1 : Int32).toInt = 1 := rfl
  have q_2 : (2 : Int32).toInt = 2 := rfl
  have q_3 : (3 : Int32).toInt = 3 := rfl
  have q_4 : (4 : Int32).toInt = 4 := rfl
  have q_5 : (5 : Int32).toInt = 5 := rfl
  have q_6 : (6 : Int32).toInt = 6 := rfl
  unfold w_X11_patternsThere
  refine ⟨v0, ?_⟩
  have f501 : (0 ≤ (bz v_patterns_0_there).toInt ∧ (bz v_patterns_0_there).toInt ≤ 1) := i_bzr v_patterns_0_there
  have j_100031 : ∀ (s0_100031 : Int32), ((s0_100031.toInt = 0 ∧ (bz v_patterns_0_there).toInt = 0) ∨ (s0_100031.toInt = 1)) → w_X11_patternsThere_100031 v_patterns v_patterns_1_there v_patterns_2_there v_patterns_3_there v_patterns_4_there v_patterns_5_there h3 h4 h5 h6 h7 Q s0_100031 0 := by
    intro s0_100031 f502
    unfold w_X11_patternsThere_100031
    intro x100031 ex100031
    have f503 : x100031.toInt = 0 + s0_100031.toInt := i_add (a := 0) (b := s0_100031.toInt) ex100031 rfl rfl (by omega) (by omega)
    refine ⟨v1, ?_⟩
    have f504 : (0 ≤ (bz v_patterns_1_there).toInt ∧ (bz v_patterns_1_there).toInt ≤ 1) := i_bzr v_patterns_1_there
    have j_200031 : ∀ (s0_200031 : Int32), ((s0_200031.toInt = 0 ∧ (bz v_patterns_1_there).toInt = 0) ∨ (s0_200031.toInt = 1)) → w_X11_patternsThere_200031 v_patterns v_patterns_2_there v_patterns_3_there v_patterns_4_there v_patterns_5_there h4 h5 h6 h7 Q s0_200031 x100031 := by
      intro s0_200031 f505
      unfold w_X11_patternsThere_200031
      intro x200031 ex200031
      have f506 : x200031.toInt = x100031.toInt + s0_200031.toInt := i_add (a := x100031.toInt) (b := s0_200031.toInt) ex200031 rfl rfl (by omega) (by omega)
      refine ⟨v2, ?_⟩
      have f507 : (0 ≤ (bz v_patterns_2_there).toInt ∧ (bz v_patterns_2_there).toInt ≤ 1) := i_bzr v_patterns_2_there
      have j_300031 : ∀ (s0_300031 : Int32), ((s0_300031.toInt = 0 ∧ (bz v_patterns_2_there).toInt = 0) ∨ (s0_300031.toInt = 1)) → w_X11_patternsThere_300031 v_patterns v_patterns_3_there v_patterns_4_there v_patterns_5_there h5 h6 h7 Q s0_300031 x200031 := by
        intro s0_300031 f508
        unfold w_X11_patternsThere_300031
        intro x300031 ex300031
        have f509 : x300031.toInt = x200031.toInt + s0_300031.toInt := i_add (a := x200031.toInt) (b := s0_300031.toInt) ex300031 rfl rfl (by omega) (by omega)
        refine ⟨v3, ?_⟩
        have f510 : (0 ≤ (bz v_patterns_3_there).toInt ∧ (bz v_patterns_3_there).toInt ≤ 1) := i_bzr v_patterns_3_there
        have j_400031 : ∀ (s0_400031 : Int32), ((s0_400031.toInt = 0 ∧ (bz v_patterns_3_there).toInt = 0) ∨ (s0_400031.toInt = 1)) → w_X11_patternsThere_400031 v_patterns v_patterns_4_there v_patterns_5_there h6 h7 Q s0_400031 x300031 := by
          intro s0_400031 f511
          unfold w_X11_patternsThere_400031
          intro x400031 ex400031
          have f512 : x400031.toInt = x300031.toInt + s0_400031.toInt := i_add (a := x300031.toInt) (b := s0_400031.toInt) ex400031 rfl rfl (by omega) (by omega)
          refine ⟨v4, ?_⟩
          have f513 : (0 ≤ (bz v_patterns_4_there).toInt ∧ (bz v_patterns_4_there).toInt ≤ 1) := i_bzr v_patterns_4_there
          have j_500031 : ∀ (s0_500031 : Int32), ((s0_500031.toInt = 0 ∧ (bz v_patterns_4_there).toInt = 0) ∨ (s0_500031.toInt = 1)) → w_X11_patternsThere_500031 v_patterns v_patterns_5_there h7 Q s0_500031 x400031 := by
            intro s0_500031 f514
            unfold w_X11_patternsThere_500031
            intro x500031 ex500031
            have f515 : x500031.toInt = x400031.toInt + s0_500031.toInt := i_add (a := x400031.toInt) (b := s0_500031.toInt) ex500031 rfl rfl (by omega) (by omega)
            refine ⟨v5, ?_⟩
            have f516 : (0 ≤ (bz v_patterns_5_there).toInt ∧ (bz v_patterns_5_there).toInt ≤ 1) := i_bzr v_patterns_5_there
            have j_600031 : ∀ (s0_600031 : Int32), ((s0_600031.toInt = 0 ∧ (bz v_patterns_5_there).toInt = 0) ∨ (s0_600031.toInt = 1)) → w_X11_patternsThere_600031 Q s0_600031 x500031 := by
              intro s0_600031 f517
              unfold w_X11_patternsThere_600031
              intro x600031 ex600031
              have f518 : x600031.toInt = x500031.toInt + s0_600031.toInt := i_add (a := x500031.toInt) (b := s0_600031.toInt) ex600031 rfl rfl (by omega) (by omega)
              exact hq x600031 (by omega) (by omega)
            refine ⟨fun c600023 => ?_, fun c600023 => ?_⟩
            · have f519 : (bz v_patterns_5_there).toInt = 0 := i_eq (a := (bz v_patterns_5_there).toInt) (b := 0) rfl rfl c600023
              exact j_600031 0 (by omega)
            · have f520 : (bz v_patterns_5_there).toInt ≠ 0 := i_ne (a := (bz v_patterns_5_there).toInt) (b := 0) rfl rfl c600023
              exact j_600031 1 (by omega)
          refine ⟨fun c500023 => ?_, fun c500023 => ?_⟩
          · have f521 : (bz v_patterns_4_there).toInt = 0 := i_eq (a := (bz v_patterns_4_there).toInt) (b := 0) rfl rfl c500023
            exact j_500031 0 (by omega)
          · have f522 : (bz v_patterns_4_there).toInt ≠ 0 := i_ne (a := (bz v_patterns_4_there).toInt) (b := 0) rfl rfl c500023
            exact j_500031 1 (by omega)
        refine ⟨fun c400023 => ?_, fun c400023 => ?_⟩
        · have f523 : (bz v_patterns_3_there).toInt = 0 := i_eq (a := (bz v_patterns_3_there).toInt) (b := 0) rfl rfl c400023
          exact j_400031 0 (by omega)
        · have f524 : (bz v_patterns_3_there).toInt ≠ 0 := i_ne (a := (bz v_patterns_3_there).toInt) (b := 0) rfl rfl c400023
          exact j_400031 1 (by omega)
      refine ⟨fun c300023 => ?_, fun c300023 => ?_⟩
      · have f525 : (bz v_patterns_2_there).toInt = 0 := i_eq (a := (bz v_patterns_2_there).toInt) (b := 0) rfl rfl c300023
        exact j_300031 0 (by omega)
      · have f526 : (bz v_patterns_2_there).toInt ≠ 0 := i_ne (a := (bz v_patterns_2_there).toInt) (b := 0) rfl rfl c300023
        exact j_300031 1 (by omega)
    refine ⟨fun c200023 => ?_, fun c200023 => ?_⟩
    · have f527 : (bz v_patterns_1_there).toInt = 0 := i_eq (a := (bz v_patterns_1_there).toInt) (b := 0) rfl rfl c200023
      exact j_200031 0 (by omega)
    · have f528 : (bz v_patterns_1_there).toInt ≠ 0 := i_ne (a := (bz v_patterns_1_there).toInt) (b := 0) rfl rfl c200023
      exact j_200031 1 (by omega)
  refine ⟨fun c100023 => ?_, fun c100023 => ?_⟩
  · have f529 : (bz v_patterns_0_there).toInt = 0 := i_eq (a := (bz v_patterns_0_there).toInt) (b := 0) rfl rfl c100023
    exact j_100031 0 (by omega)
  · have f530 : (bz v_patterns_0_there).toInt ≠ 0 := i_ne (a := (bz v_patterns_0_there).toInt) (b := 0) rfl rfl c100023
    exact j_100031 1 (by omega)
