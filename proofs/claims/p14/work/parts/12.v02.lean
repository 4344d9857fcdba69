set_option maxHeartbeats 4000000 in
theorem ok_X11_subjectsThere {v_subjects : Nat → Option Nat} {v_subjects_0_there : Bool} {v_subjects_1_there : Bool} {v_subjects_2_there : Bool} {v_subjects_3_there : Bool} {h2 : Nat} {h3 : Nat} {h4 : Nat} {h5 : Nat} {Q : Int32 → Prop} (v0 : v_subjects (0 : Int32).toNatClampNeg = some h2) (v1 : v_subjects (1 : Int32).toNatClampNeg = some h3) (v2 : v_subjects (2 : Int32).toNatClampNeg = some h4) (v3 : v_subjects (3 : Int32).toNatClampNeg = some h5) (hq : ∀ (r : Int32), 0 ≤ r.toInt → r.toInt ≤ 4 → Q r) : w_X11_subjectsThere v_subjects v_subjects_0_there v_subjects_1_there v_subjects_2_there v_subjects_3_there h2 h3 h4 h5 Q := by
  have q_t : (bz true).toInt = 1 := rfl
  have q_f : (bz false).toInt = 0 := rfl
  have q_0 : (0 : Int32).toInt = 0 := rfl
  have q_1 : (1 : Int32).toInt = 1 := rfl
  have q_2 : (2 : Int32).toInt = 2 := rfl
  have q_3 : (3 : Int32).toInt = 3 := rfl
  have q_4 : (4 : Int32).toInt = 4 := rfl
  unfold w_X11_subjectsThere
  refine ⟨v0, ?_⟩
  have f1 : (0 ≤ (bz v_subjects_0_there).toInt ∧ (bz v_subjects_0_there).toInt ≤ 1) := i_bzr v_subjects_0_there
  have j_100031 : ∀ (s0_100031 : Int32), ((s0_100031.toInt = 0 ∧ (bz v_subjects_0_there).toInt = 0) ∨ (s0_100031.toInt = 1)) → w_X11_subjectsThere_100031 v_subjects v_subjects_1_there v_subjects_2_there v_subjects_3_there h3 h4 h5 Q s0_100031 0 := by
    intro s0_100031 f2
    unfold w_X11_subjectsThere_100031
    intro x100031 ex100031
    have f3 : x100031.toInt = 0 + s0_100031.toInt := i_add (a := 0) (b := s0_100031.toInt) ex100031 rfl rfl (by omega) (by omega)
    refine ⟨v1, ?_⟩
    have f4 : (0 ≤ (bz v_subjects_1_there).toInt ∧ (bz v_subjects_1_there).toInt ≤ 1) := i_bzr v_subjects_1_there
    have j_200031 : ∀ (s0_200031 : Int32), ((s0_200031.toInt = 0 ∧ (bz v_subjects_1_there).toInt = 0) ∨ (s0_200031.toInt = 1)) → w_X11_subjectsThere_200031 v_subjects v_subjects_2_there v_subjects_3_there h4 h5 Q s0_200031 x100031 := by
      intro s0_200031 f5
      unfold w_X11_subjectsThere_200031
      intro x200031 ex200031
      have f6 : x200031.toInt = x100031.toInt + s0_200031.toInt := i_add (a := x100031.toInt) (b := s0_200031.toInt) ex200031 rfl rfl (by omega) (by omega)
      refine ⟨v2, ?_⟩
      have f7 : (0 ≤ (bz v_subjects_2_there).toInt ∧ (bz v_subjects_2_there).toInt ≤ 1) := i_bzr v_subjects_2_there
      have j_300031 : ∀ (s0_300031 : Int32), ((s0_300031.toInt = 0 ∧ (bz v_subjects_2_there).toInt = 0) ∨ (s0_300031.toInt = 1)) → w_X11_subjectsThere_300031 v_subjects v_subjects_3_there h5 Q s0_300031 x200031 := by
        intro s0_300031 f8
        unfold w_X11_subjectsThere_300031
        intro x300031 ex300031
        have f9 : x300031.toInt = x200031.toInt + s0_300031.toInt := i_add (a := x200031.toInt) (b := s0_300031.toInt) ex300031 rfl rfl (by omega) (by omega)
        refine ⟨v3, ?_⟩
        have f10 : (0 ≤ (bz v_subjects_3_there).toInt ∧ (bz v_subjects_3_there).toInt ≤ 1) := i_bzr v_subjects_3_there
        have j_400031 : ∀ (s0_400031 : Int32), ((s0_400031.toInt = 0 ∧ (bz v_subjects_3_there).toInt = 0) ∨ (s0_400031.toInt = 1)) → w_X11_subjectsThere_400031 Q s0_400031 x300031 := by
          intro s0_400031 f11
          unfold w_X11_subjectsThere_400031
          intro x400031 ex400031
          have f12 : x400031.toInt = x300031.toInt + s0_400031.toInt := i_add (a := x300031.toInt) (b := s0_400031.toInt) ex400031 rfl rfl (by omega) (by omega)
          exact hq x400031 (by omega) (by omega)
        refine ⟨fun c400023 => ?_, fun c400023 => ?_⟩
        · have f13 : (bz v_subjects_3_there).toInt = 0 := i_eq (a := (bz v_subjects_3_there).toInt) (b := 0) rfl rfl c400023
          exact j_400031 0 (by omega)
        · have f14 : (bz v_subjects_3_there).toInt ≠ 0 := i_ne (a := (bz v_subjects_3_there).toInt) (b := 0) rfl rfl c400023
          exact j_400031 1 (by omega)
      refine ⟨fun c300023 => ?_, fun c300023 => ?_⟩
      · have f15 : (bz v_subjects_2_there).toInt = 0 := i_eq (a := (bz v_subjects_2_there).toInt) (b := 0) rfl rfl c300023
        exact j_300031 0 (by omega)
      · have f16 : (bz v_subjects_2_there).toInt ≠ 0 := i_ne (a := (bz v_subjects_2_there).toInt) (b := 0) rfl rfl c300023
        exact j_300031 1 (by omega)
    refine ⟨fun c200023 => ?_, fun c200023 => ?_⟩
    · have f17 : (bz v_subjects_1_there).toInt = 0 := i_eq (a := (bz v_subjects_1_there).toInt) (b := 0) rfl rfl c200023
      exact j_200031 0 (by omega)
    · have f18 : (bz v_subjects_1_there).toInt ≠ 0 := i_ne (a := (bz v_subjects_1_there).toInt) (b := 0) rfl rfl c200023
      exact j_200031 1 (by omega)
  refine ⟨fun c100023 => ?_, fun c100023 => ?_⟩
  · have f19 : (bz v_subjects_0_there).toInt = 0 := i_eq (a := (bz v_subjects_0_there).toInt) (b := 0) rfl rfl c100023
    exact j_100031 0 (by omega)
  · have f20 : (bz v_subjects_0_there).toInt ≠ 0 := i_ne (a := (bz v_subjects_0_there).toInt) (b := 0) rfl rfl c100023
    exact j_100031 1 (by omega)
set_option maxHeartbeats 4000000 in
theorem ok_X11_begins {p1 : Int32} {p2 : Int32} {v_latestFinding : Int32} {v_patterns : Nat → Option Nat} {v_patterns_p1_there : Bool} {v_patterns_p1_count : Int32} {v_patterns_p1_ranges : Int32} {v_patterns_p1_sort : Nat → Int32} {v_patterns_p1_holder : Nat → Int32} {v_patterns_p1_end : Nat → Int32} {v_patterns_p1_value : Nat → Int32} {v_patterns_p1_low : Nat → Int32} {v_patterns_p1_high : Nat → Int32} {v_patterns_p1_mayBeEmpty : Nat → Bool} {v_patterns_p1_withinCase : Nat → Bool} {v_patterns_p1_marked : Nat → Bool} {v_patterns_p1_rangeBegin : Nat → Int32} {v_patterns_p1_rangeEnd : Nat → Int32} {h2 : Nat} {Q : Int32 → Int32 → (Nat → Bool) → Prop} (a0 : 0 ≤ v_patterns_p1_count.toInt) (a1 : v_patterns_p1_count.toInt ≤ 256) (a2 : 0 ≤ v_patterns_p1_ranges.toInt) (a3 : v_patterns_p1_ranges.toInt ≤ 512) (b0 : rp (fun k v => k < v ∧ v ≤ 256) v_patterns_p1_end 0 v_patterns_p1_count.toInt) (b1 : rp (fun k v => v < k ∧ -1 ≤ v) v_patterns_p1_holder 0 v_patterns_p1_count.toInt) (v0 : 0 ≤ p1.toInt → p1.toInt < 6 → v_patterns p1.toNatClampNeg = some h2) (hq : ∀ (r : Int32) (ov_latestFinding : Int32) (ov_patterns_p1_marked : Nat → Bool), ((r.toInt + 2 = 0) ∨ (0 ≤ p2.toInt ∧ p2.toInt ≤ 65535) ∨ (r.toInt + 4 = 0)) → 0 ≤ r.toInt + 4 → r.toInt ≤ 1 → Q r ov_latestFinding ov_patterns_p1_marked) : w_X11_begins p1 p2 v_latestFinding v_patterns v_patterns_p1_there v_patterns_p1_count v_patterns_p1_ranges v_patterns_p1_sort v_patterns_p1_holder v_patterns_p1_end v_patterns_p1_value v_patterns_p1_low v_patterns_p1_high v_patterns_p1_mayBeEmpty v_patterns_p1_withinCase v_patterns_p1_marked v_patterns_p1_rangeBegin v_patterns_p1_rangeEnd h2 Q := by
  have q_t : (bz true).toInt = 1 := rfl
  have q_f : (bz false).toInt = 0 := rfl
  have q_m4 : ((-4) : Int32).toInt = (-4) := rfl
  have q_m2 : ((-2) : Int32).toInt = (-2) := rfl
  have q_0 : (0 : Int32).toInt = 0 := rfl
  have q_1 : (1 : Int32).toInt = 1 := rfl
  unfold w_X11_begins
  refine ok_X11_patternIn v0 (fun r2 r2_0 f1 f2 => ?_)
  refine ⟨fun c2 => ?_, fun c2 => ?_⟩
  · have f3 : r2.toInt = 0 := i_eq (a := r2.toInt) (b := 0) rfl rfl c2
    exact hq (-2) r2_0 v_patterns_p1_marked (by omega) (by omega) (by omega)
  · have f4 : r2.toInt ≠ 0 := i_ne (a := r2.toInt) (b := 0) rfl rfl c2
    have j_200023 : ((p2.toInt + 1 ≤ 0) ∨ (0 ≤ p2.toInt ∧ 65536 ≤ p2.toInt)) → w_X11_begins_200023 Q r2_0 v_patterns_p1_marked := by
      intro f5
      unfold w_X11_begins_200023
      exact hq (-4) r2_0 v_patterns_p1_marked (by omega) (by omega) (by omega)
    refine ⟨fun c200014 => ?_, fun c200014 => ?_⟩
    · have f6 : p2.toInt < 0 := i_lt (a := p2.toInt) (b := 0) rfl rfl c200014
      exact j_200023  (by omega)
    · have f7 : 0 ≤ p2.toInt := i_nlt (a := p2.toInt) (b := 0) rfl rfl c200014
      refine ⟨fun c200020 => ?_, fun c200020 => ?_⟩
      · have f8 : p2.toInt ≤ 65535 := i_le (a := p2.toInt) (b := 65535) rfl rfl c200020
        refine ok_X10_markBeginning (by omega) (by omega) (by omega) (by omega) (rp_mono b0 (by omega) (by omega)) (rp_mono b1 (by omega) (by omega)) (fun r200028_0 => ?_)
        refine ok_X10_isMarked (by omega) (by omega) (fun r200033 f9 => ?_)
        have j_200044 : ∀ (s0_200044 : Int32), ((s0_200044.toInt = 0 ∧ r200033.toInt = 0) ∨ (s0_200044.toInt = 1)) → w_X11_begins_200044 Q s0_200044 r2_0 r200028_0 := by
          intro s0_200044 f10
          unfold w_X11_begins_200044
          exact hq s0_200044 r2_0 r200028_0 (by omega) (by omega) (by omega)
        refine ⟨fun c200036 => ?_, fun c200036 => ?_⟩
        · have f11 : r200033.toInt = 0 := i_eq (a := r200033.toInt) (b := 0) rfl rfl c200036
          exact j_200044 0 (by omega)
        · have f12 : r200033.toInt ≠ 0 := i_ne (a := r200033.toInt) (b := 0) rfl rfl c200036
          exact j_200044 1 (by omega)
      · have f13 : 65535 < p2.toInt := i_nle (a := p2.toInt) (b := 65535) rfl rfl c200020
        exact j_200023  (by omega)
set_option maxHeartbeats 4000000 in
theorem ok_X4_write_v1 {a2_there : Bool} {a2_items : Nat → Int32} {na2_items : Nat} {a1_there : Bool} {a1_count : Int32} {a1_captures : Int32} {a1_ranges : Int32} {a1_sort : Nat → Int32} {a1_holder : Nat → Int32} {a1_end : Nat → Int32} {a1_parts : Nat → Int32} {a1_value : Nat → Int32} {a1_low : Nat → Int32} {a1_high : Nat → Int32} {a1_rangeBegin : Nat → Int32} {a1_rangeEnd : Nat → Int32} {Q : Int32 → Bool → (Nat → Int32) → Int32 → Prop} (a0 : (na2_items : Int) ≤ 1000) (a1 : 0 ≤ a1_count.toInt) (a2 : a1_count.toInt ≤ 256) (a3 : 0 ≤ a1_ranges.toInt) (a4 : a1_ranges.toInt ≤ 512) (b0 : rp (fun k v => k < v ∧ v ≤ 256) a1_end 0 a1_count.toInt) (b1 : rp (fun k v => v < k ∧ -1 ≤ v) a1_holder 0 a1_count.toInt) (hq : ∀ (oa2_count : Int32) (oa2_over : Bool) (oa2_items : Nat → Int32) (ov_behindOpening : Int32), 0 ≤ oa2_count.toInt → oa2_count.toInt ≤ (na2_items : Int) → Q oa2_count oa2_over oa2_items ov_behindOpening) : w_X4_write_v1 a2_there a2_items na2_items a1_there a1_count a1_captures a1_ranges a1_sort a1_holder a1_end a1_parts a1_value a1_low a1_high a1_rangeBegin a1_rangeEnd Q := by
  have q_t : (bz true).toInt = 1 := rfl
  have q_f : (bz false).toInt = 0 := rfl
  have q_m1 : ((-1) : Int32).toInt = (-1) := rfl
  have q_0 : (0 : Int32).toInt = 0 := rfl
  unfold w_X4_write_v1
  refine ok_X7_empty  (fun r100009_0 r100009_1 f1 f2 => ?_)
  refine ok_X4_writeNode (by omega) (by omega) (by omega) (by omega) (by omega) (by omega) (by omega) (by omega) (by omega) (rp_mono b0 (by omega) (by omega)) (rp_mono b1 (by omega) (by omega)) (fun r100021_0 r100021_1 r100021_2 r100021_3 f3 f4 => ?_)
  exact hq r100021_0 r100021_1 r100021_2 r100021_3 (by omega) (by omega)
set_option maxHeartbeats 4000000 in
theorem ok_X11_print {p1 : Int32} {v_outHasNumbers : Bool} {v_latestFinding : Int32} {v_patterns : Nat → Option Nat} {v_outRow_count : Int32} {v_outRow_over : Bool} {v_outRow_items : Nat → Int32} {nv_outRow_items : Nat} {v_draft_count : Int32} {v_draft_over : Bool} {v_draft_there : Bool} {v_draft_items : Nat → Int32} {nv_draft_items : Nat} {v_printer_behindOpening : Int32} {v_patterns_p1_there : Bool} {v_patterns_p1_count : Int32} {v_patterns_p1_captures : Int32} {v_patterns_p1_ranges : Int32} {v_patterns_p1_sort : Nat → Int32} {v_patterns_p1_holder : Nat → Int32} {v_patterns_p1_end : Nat → Int32} {v_patterns_p1_parts : Nat → Int32} {v_patterns_p1_value : Nat → Int32} {v_patterns_p1_low : Nat → Int32} {v_patterns_p1_high : Nat → Int32} {v_patterns_p1_rangeBegin : Nat → Int32} {v_patterns_p1_rangeEnd : Nat → Int32} {h30 : Nat} {h4 : Nat} {h7 : Nat} {Q : Int32 → Bool → Int32 → Int32 → Bool → (Nat → Int32) → Int32 → Bool → (Nat → Int32) → Nat → Int32 → Prop} (a0 : 0 ≤ v_outRow_count.toInt) (a1 : v_outRow_count.toInt ≤ (nv_outRow_items : Int)) (a2 : (nv_outRow_items : Int) ≤ 1000) (a3 : 0 ≤ v_draft_count.toInt) (a4 : v_draft_count.toInt ≤ (nv_draft_items : Int)) (a5 : (nv_draft_items : Int) ≤ 1000) (a6 : 0 ≤ v_patterns_p1_count.toInt) (a7 : v_patterns_p1_count.toInt ≤ 256) (a8 : 0 ≤ v_patterns_p1_ranges.toInt) (a9 : v_patterns_p1_ranges.toInt ≤ 512) (b0 : rp (fun k v => k < v ∧ v ≤ 256) v_patterns_p1_end 0 v_patterns_p1_count.toInt) (b1 : rp (fun k v => v < k ∧ -1 ≤ v) v_patterns_p1_holder 0 v_patterns_p1_count.toInt) (v0 : 0 ≤ p1.toInt → p1.toInt < 6 → v_patterns p1.toNatClampNeg = some h7) (hq : ∀ (r : Int32) (ov_outHasNumbers : Bool) (ov_latestFinding : Int32) (ov_outRow_count : Int32) (ov_outRow_over : Bool) (ov_outRow_items : Nat → Int32) (ov_draft_count : Int32) (ov_draft_over : Bool) (ov_draft_items : Nat → Int32) (oh30 : Nat) (ov_printer_behindOpening : Int32), 0 ≤ r.toInt + 9 → r.toInt ≤ 1000 → 0 ≤ ov_outRow_count.toInt → ov_outRow_count.toInt ≤ 1000 → 0 ≤ ov_draft_count.toInt → ov_draft_count.toInt ≤ 1000 → ov_outRow_count.toInt ≤ (nv_outRow_items : Int) → ov_draft_count.toInt ≤ (nv_draft_items : Int) → Q r ov_outHasNumbers ov_latestFinding ov_outRow_count ov_outRow_over ov_outRow_items ov_draft_count ov_draft_over ov_draft_items oh30 ov_printer_behindOpening) : w_X11_print p1 v_outHasNumbers v_latestFinding v_patterns v_outRow_count v_outRow_over v_outRow_items nv_outRow_items v_draft_count v_draft_over v_draft_there v_draft_items nv_draft_items v_printer_behindOpening v_patterns_p1_there v_patterns_p1_count v_patterns_p1_captures v_patterns_p1_ranges v_patterns_p1_sort v_patterns_p1_holder v_patterns_p1_end v_patterns_p1_parts v_patterns_p1_value v_patterns_p1_low v_patterns_p1_high v_patterns_p1_rangeBegin v_patterns_p1_rangeEnd h30 h4 h7 Q := by
  have q_t : (bz true).toInt = 1 := rfl
  have q_f : (bz false).toInt = 0 := rfl
  have q_m9 : ((-9) : Int32).toInt = (-9) := rfl
  have q_m2 : ((-2) : Int32).toInt = (-2) := rfl
  have q_0 : (0 : Int32).toInt = 0 := rfl
  have q_4 : (4 : Int32).toInt = 4 := rfl
  unfold w_X11_print
  refine ok_X11_patternIn v0 (fun r2 r2_0 f1 f2 => ?_)
  refine ⟨fun c2 => ?_, fun c2 => ?_⟩
  · have f3 : r2.toInt = 0 := i_eq (a := r2.toInt) (b := 0) rfl rfl c2
    exact hq (-2) v_outHasNumbers r2_0 v_outRow_count v_outRow_over v_outRow_items v_draft_count v_draft_over v_draft_items h30 v_printer_behindOpening (by omega) (by omega) (by omega) (by omega) (by omega) (by omega) (by omega) (by omega)
  · have f4 : r2.toInt ≠ 0 := i_ne (a := r2.toInt) (b := 0) rfl rfl c2
    refine ok_X4_write_v1 (by omega) (by omega) (by omega) (by omega) (by omega) (rp_mono b0 (by omega) (by omega)) (rp_mono b1 (by omega) (by omega)) (fun r200022_0 r200022_1 r200022_2 r200022_3 f5 f6 => ?_)
    have f7 : (0 ≤ (bz r200022_1).toInt ∧ (bz r200022_1).toInt ≤ 1) := i_bzr r200022_1
    refine ⟨fun c300032 => ?_, fun c300032 => ?_⟩
    · have f8 : (bz r200022_1).toInt = 0 := i_eq (a := (bz r200022_1).toInt) (b := 0) rfl rfl c300032
      refine ok_X11_tellRow (by omega) (by omega) (by omega) (by omega) (by omega) (by omega) (fun r300045_0 r300045_1 r300045_2 r300045_3 f9 f10 f11 f12 f13 => ?_)
      exact hq r300045_1 r300045_0 r2_0 r300045_1 r300045_2 r300045_3 r200022_0 r200022_1 r200022_2 h4 r200022_3 (by omega) (by omega) (by omega) (by omega) (by omega) (by omega) (by omega) (by omega)
    · have f14 : (bz r200022_1).toInt ≠ 0 := i_ne (a := (bz r200022_1).toInt) (b := 0) rfl rfl c300032
      exact hq (-9) v_outHasNumbers 4 v_outRow_count v_outRow_over v_outRow_items r200022_0 r200022_1 r200022_2 h4 r200022_3 (by omega) (by omega) (by omega) (by omega) (by omega) (by omega) (by omega) (by omega)
set_option maxHeartbeats 4000000 in
theorem ok_X11_span {p1 : Int32} {p2 : Int32} {v_latestFinding : Int32} {v_found_count : Int32} {v_found_items : Nat → Int32} {nv_found_items : Nat} {Q : Int32 → Int32 → Prop} (a0 : 0 ≤ v_found_count.toInt) (a1 : v_found_count.toInt ≤ (nv_found_items : Int)) (a2 : (nv_found_items : Int) ≤ 1000) (a3 : 0 ≤ p2.toInt) (a4 : p2.toInt ≤ 1) (hq : ∀ (r : Int32) (ov_latestFinding : Int32), ((r.toInt + 2 = 0 ∧ ov_latestFinding.toInt = v_latestFinding.toInt ∧ v_found_count.toInt = 0) ∨ (ov_latestFinding.toInt = v_latestFinding.toInt ∧ 0 ≤ p1.toInt) ∨ (r.toInt + 4 = 0 ∧ ov_latestFinding.toInt = 1)) → Q r ov_latestFinding) : w_X11_span p1 p2 v_latestFinding v_found_count v_found_items nv_found_items Q := by
  have q_t : (bz true).toInt = 1 := rfl
  have q_f : (bz false).toInt = 0 := rfl
  have q_m4 : ((-4) : Int32).toInt = (-4) := rfl
  have q_m2 : ((-2) : Int32).toInt = (-2) := rfl
  have q_1 : (1 : Int32).toInt = 1 := rfl
  unfold w_X11_span
  refine ⟨fun c7 => ?_, fun c7 => ?_⟩
  · have f1 : v_found_count.toInt ≠ 0 := i_ne (a := v_found_count.toInt) (b := 0) rfl rfl c7
    have j_25 : ((p1.toInt + 1 ≤ 0) ∨ (0 ≤ p1.toInt)) → w_X11_span_25 Q v_latestFinding := by
      intro f2
      unfold w_X11_span_25
      exact hq (-4) 1 (by omega)
    refine ⟨fun c14 => ?_, fun c14 => ?_⟩
    · have f3 : p1.toInt < 0 := i_lt (a := p1.toInt) (b := 0) rfl rfl c14
      exact j_25  (by omega)
    · have f4 : 0 ≤ p1.toInt := i_nlt (a := p1.toInt) (b := 0) rfl rfl c14
      refine ok_X11_capturesOfFound (by omega) (fun r19 f5 => ?_)
      refine ⟨fun c22 => ?_, fun c22 => ?_⟩
      · have f6 : p1.toInt ≤ r19.toInt := i_le (a := p1.toInt) (b := r19.toInt) rfl rfl c22
        have j_52 : ∀ (s0_52 : Int32), ((p2.toInt = 0 ∧ s0_52.toInt = 2 * p1.toInt) ∨ (s0_52.toInt = 2 * p1.toInt + 1)) → w_X11_span_52 v_found_count v_found_items nv_found_items Q s0_52 v_latestFinding := by
          intro s0_52 f7
          unfold w_X11_span_52
          refine ok_X7_at (by omega) (by omega) (by omega) (fun r52 f8 => ?_)
          exact hq r52 v_latestFinding (by omega)
        refine ⟨fun c38 => ?_, fun c38 => ?_⟩
        · have f9 : p2.toInt = 0 := i_eq (a := p2.toInt) (b := 0) rfl rfl c38
          intro x51 ex51
          have f10 : x51.toInt = 2 * p1.toInt := i_mul (a := 2) (b := p1.toInt) ex51 rfl rfl (by omega) (by omega)
          exact j_52 x51 (by omega)
        · have f11 : p2.toInt ≠ 0 := i_ne (a := p2.toInt) (b := 0) rfl rfl c38
          intro x43 ex43
          have f12 : x43.toInt = 2 * p1.toInt := i_mul (a := 2) (b := p1.toInt) ex43 rfl rfl (by omega) (by omega)
          intro x45 ex45
          have f13 : x45.toInt = x43.toInt + 1 := i_add (a := x43.toInt) (b := 1) ex45 rfl rfl (by omega) (by omega)
          exact j_52 x45 (by omega)
      · have f14 : r19.toInt < p1.toInt := i_nle (a := p1.toInt) (b := r19.toInt) rfl rfl c22
        exact j_25  (by omega)
  · have f15 : v_found_count.toInt = 0 := i_eq (a := v_found_count.toInt) (b := 0) rfl rfl c7
    exact hq (-2) v_latestFinding (by omega)
set_option maxHeartbeats 4000000 in
theorem ok_X8_make_v2 {v_alphabet_begins : Nat → Int32} {v_one_count : Int32} {v_one_stamp : Int32} {v_one_stackCount : Int32} {v_one_program_start : Int32} {v_one_program_kinds : Nat → Int32} {v_one_program_subjects : Nat → Int32} {v_one_program_nexts : Nat → Int32} {v_one_program_others : Nat → Int32} {v_one_positionOf : Nat → Int32} {v_one_pcOf : Nat → Int32} {v_one_follow : Nat → Int64} {v_one_takers : Nat → Int64} {v_one_seen : Nat → Int32} {v_one_stack : Nat → Int32} {v_one_states : Nat → Int64} {v_one_ahead : Nat → Int64} {v_one_goes : Nat → Int32} {v_other_count : Int32} {v_other_positionCount : Int32} {v_other_stamp : Int32} {v_other_stackCount : Int32} {v_other_width : Int32} {v_other_program_start : Int32} {v_other_program_count : Int32} {v_other_program_kinds : Nat → Int32} {v_other_program_subjects : Nat → Int32} {v_other_program_nexts : Nat → Int32} {v_other_program_others : Nat → Int32} {v_other_positionOf : Nat → Int32} {v_other_pcOf : Nat → Int32} {v_other_follow : Nat → Int64} {v_other_takers : Nat → Int64} {v_other_seen : Nat → Int32} {v_other_stack : Nat → Int32} {v_other_states : Nat → Int64} {v_other_ahead : Nat → Int64} {v_other_goes : Nat → Int32} {a1_there : Bool} {a1_count : Int32} {a1_captures : Int32} {a1_ranges : Int32} {a1_sort : Nat → Int32} {a1_end : Nat → Int32} {a1_before : Nat → Int32} {a1_last : Nat → Int32} {a1_parts : Nat → Int32} {a1_value : Nat → Int32} {a1_low : Nat → Int32} {a1_high : Nat → Int32} {a1_withinCase : Nat → Bool} {a1_rangeBegin : Nat → Int32} {a1_rangeEnd : Nat → Int32} {h56 : Nat} {h1 : Nat} {Q : Int32 → Int32 → (Nat → Int32) → Int32 → Int32 → Int32 → Int32 → Int32 → Int32 → Int32 → (Nat → Int32) → (Nat → Int32) → (Nat → Int32) → (Nat → Int32) → (Nat → Int32) → (Nat → Int32) → (Nat → Int64) → (Nat → Int64) → (Nat → Int32) → (Nat → Int32) → (Nat → Int64) → (Nat → Int64) → (Nat → Int32) → Int32 → Int32 → Int32 → Int32 → Int32 → Int32 → Int32 → Nat → (Nat → Int32) → (Nat → Int32) → (Nat → Int32) → (Nat → Int32) → (Nat → Int32) → (Nat → Int32) → (Nat → Int64) → (Nat → Int64) → (Nat → Int32) → (Nat → Int32) → (Nat → Int64) → (Nat → Int64) → (Nat → Int32) → Prop} (a0 : 0 ≤ v_one_count.toInt) (a1 : v_one_count.toInt ≤ 60) (a2 : 0 ≤ v_other_count.toInt) (a3 : v_other_count.toInt ≤ 60) (a4 : 0 ≤ v_other_positionCount.toInt) (a5 : v_other_positionCount.toInt ≤ 60) (a6 : 0 ≤ v_other_width.toInt) (a7 : v_other_width.toInt ≤ 256) (a8 : 0 ≤ v_other_program_count.toInt) (a9 : v_other_program_count.toInt ≤ 512) (a10 : 0 ≤ a1_count.toInt) (a11 : a1_count.toInt ≤ 256) (a12 : 0 ≤ a1_ranges.toInt) (a13 : a1_ranges.toInt ≤ 512) (b0 : rp (fun k v => -1 ≤ v ∧ v ≤ 255) a1_last 0 a1_count.toInt) (b1 : rp (fun k v => k < v ∧ v ≤ 256) a1_end 0 a1_count.toInt) (b2 : rp (fun k v => v < k ∧ -1 ≤ v) a1_before 0 a1_count.toInt) (hq : ∀ (r : Int32) (ov_alphabet_count : Int32) (ov_alphabet_begins : Nat → Int32) (ov_one_count : Int32) (ov_one_positionCount : Int32) (ov_one_stamp : Int32) (ov_one_stackCount : Int32) (ov_one_width : Int32) (ov_one_program_start : Int32) (ov_one_program_count : Int32) (ov_one_program_kinds : Nat → Int32) (ov_one_program_subjects : Nat → Int32) (ov_one_program_nexts : Nat → Int32) (ov_one_program_others : Nat → Int32) (ov_one_positionOf : Nat → Int32) (ov_one_pcOf : Nat → Int32) (ov_one_follow : Nat → Int64) (ov_one_takers : Nat → Int64) (ov_one_seen : Nat → Int32) (ov_one_stack : Nat → Int32) (ov_one_states : Nat → Int64) (ov_one_ahead : Nat → Int64) (ov_one_goes : Nat → Int32) (ov_other_count : Int32) (ov_other_positionCount : Int32) (ov_other_stamp : Int32) (ov_other_stackCount : Int32) (ov_other_width : Int32) (ov_other_program_start : Int32) (ov_other_program_count : Int32) (oh56 : Nat) (ov_other_program_kinds : Nat → Int32) (ov_other_program_subjects : Nat → Int32) (ov_other_program_nexts : Nat → Int32) (ov_other_program_others : Nat → Int32) (ov_other_positionOf : Nat → Int32) (ov_other_pcOf : Nat → Int32) (ov_other_follow : Nat → Int64) (ov_other_takers : Nat → Int64) (ov_other_seen : Nat → Int32) (ov_other_stack : Nat → Int32) (ov_other_states : Nat → Int64) (ov_other_ahead : Nat → Int64) (ov_other_goes : Nat → Int32), 0 ≤ ov_alphabet_count.toInt + 1 → 0 ≤ ov_alphabet_count.toInt → ov_alphabet_count.toInt ≤ 256 → 1 ≤ ov_alphabet_count.toInt → 0 ≤ ov_one_program_count.toInt → ov_one_program_count.toInt ≤ 512 → ((ov_one_width.toInt = 256 ∧ 256 ≤ ov_alphabet_count.toInt) ∨ (ov_one_width.toInt = ov_alphabet_count.toInt ∧ ov_alphabet_count.toInt ≤ 256)) → 0 ≤ ov_one_positionCount.toInt + 1 → 0 ≤ ov_one_positionCount.toInt → ov_one_positionCount.toInt ≤ 60 → ov_one_positionCount.toInt ≤ 61 → ov_one_positionCount.toInt ≤ ov_one_program_count.toInt → ov_one_positionCount.toInt ≤ ov_one_program_count.toInt + 1 → 0 ≤ ov_one_width.toInt → ov_one_width.toInt ≤ 256 → 0 ≤ ov_one_stackCount.toInt + 1 → 0 ≤ ov_one_stackCount.toInt → 0 ≤ ov_one_count.toInt → 0 ≤ ov_one_count.toInt + 1 → 1 ≤ ov_one_count.toInt → ov_one_count.toInt ≤ 60 → ov_one_count.toInt ≤ 61 → 0 ≤ r.toInt → r.toInt ≤ 1 → 0 ≤ ov_other_count.toInt → ov_other_count.toInt ≤ 60 → 0 ≤ ov_other_positionCount.toInt → ov_other_positionCount.toInt ≤ 60 → 0 ≤ ov_other_width.toInt → ov_other_width.toInt ≤ 256 → 0 ≤ ov_other_program_count.toInt → ov_other_program_count.toInt ≤ 512 → Q r ov_alphabet_count ov_alphabet_begins ov_one_count ov_one_positionCount ov_one_stamp ov_one_stackCount ov_one_width ov_one_program_start ov_one_program_count ov_one_program_kinds ov_one_program_subjects ov_one_program_nexts ov_one_program_others ov_one_positionOf ov_one_pcOf ov_one_follow ov_one_takers ov_one_seen ov_one_stack ov_one_states ov_one_ahead ov_one_goes ov_other_count ov_other_positionCount ov_other_stamp ov_other_stackCount ov_other_width ov_other_program_start ov_other_program_count oh56 ov_other_program_kinds ov_other_program_subjects ov_other_program_nexts ov_other_program_others ov_other_positionOf ov_other_pcOf ov_other_follow ov_other_takers ov_other_seen ov_other_stack ov_other_states ov_other_ahead ov_other_goes) : w_X8_make_v2 v_alphabet_begins v_one_count v_one_stamp v_one_stackCount v_one_program_start v_one_program_kinds v_one_program_subjects v_one_program_nexts v_one_program_others v_one_positionOf v_one_pcOf v_one_follow v_one_takers v_one_seen v_one_stack v_one_states v_one_ahead v_one_goes v_other_count v_other_positionCount v_other_stamp v_other_stackCount v_other_width v_other_program_start v_other_program_count v_other_program_kinds v_other_program_subjects v_other_program_nexts v_other_program_others v_other_positionOf v_other_pcOf v_other_follow v_other_takers v_other_seen v_other_stack v_other_states v_other_ahead v_other_goes a1_there a1_count a1_captures a1_ranges a1_sort a1_end a1_before a1_last a1_parts a1_value a1_low a1_high a1_withinCase a1_rangeBegin a1_rangeEnd h56 h1 Q := by
  have q_t : (bz true).toInt = 1 := rfl
  have q_f : (bz false).toInt = 0 := rfl
  have q_0 : (0 : Int32).toInt = 0 := rfl
  have q_1 : (1 : Int32).toInt = 1 := rfl
  unfold w_X8_make_v2
  refine ok_X0_gather (by omega) (by omega) (by omega) (by omega) (fun r6_0 r6_1 f501 f502 f503 f504 => ?_)
  refine ok_X9_make_v1 (by omega) (by omega) (by omega) (by omega) (by omega) (by omega) (by omega) (by omega) (rp_mono b0 (by omega) (by omega)) (rp_mono b1 (by omega) (by omega)) (rp_mono b2 (by omega) (by omega)) (fun r18 r18_0 r18_1 r18_2 r18_3 r18_4 r18_5 r18_6 r18_7 r18_8 r18_9 r18_10 r18_11 r18_12 r18_13 r18_14 r18_15 r18_16 r18_17 r18_18 r18_19 f505 f506 f507 f508 f509 f510 f511 f512 f513 f514 f515 f516 f517 f518 f519 f520 f521 f522 f523 f524 f525 f526 f527 f528 f529 f530 f531 f532 f533 f534 f535 f536 => ?_)
  refine ⟨fun c100021 => ?_, fun c100021 => ?_⟩
  · have f537 : r18.toInt = 0 := i_eq (a := r18.toInt) (b := 0) rfl rfl c100021
    exact hq 0 r6_0 r6_1 r18_0 r18_1 r18_2 r18_3 r18_4 r18_5 r18_6 r18_7 r18_8 r18_9 r18_10 r18_11 r18_12 r18_13 r18_14 r18_15 r18_16 r18_17 r18_18 r18_19 v_other_count v_other_positionCount v_other_stamp v_other_stackCount v_other_width v_other_program_start v_other_program_count h56 v_other_program_kinds v_other_program_subjects v_other_program_nexts v_other_program_others v_other_positionOf v_other_pcOf v_other_follow v_other_takers v_other_seen v_other_stack v_other_states v_other_ahead v_other_goes (by omega) (by omega) (by omega) (by omega) (by omega) (by omega) (by omega) (by omega) (by omega) (by omega) (by omega) (by omega) (by omega) (by omega) (by omega) (by omega) (by omega) (by omega) (by omega) (by omega) (by omega) (by omega) (by omega) (by omega) (by omega) (by omega) (by omega) (by omega) (by omega) (by omega) (by omega) (by omega)
  · have f538 : r18.toInt ≠ 0 := i_ne (a := r18.toInt) (b := 0) rfl rfl c100021
    refine ok_X9_make_v1 (by omega) (by omega) (by omega) (by omega) (by omega) (by omega) (by omega) (by omega) (rp_mono b0 (by omega) (by omega)) (rp_mono b1 (by omega) (by omega)) (rp_mono b2 (by omega) (by omega)) (fun r100037 r100037_0 r100037_1 r100037_2 r100037_3 r100037_4 r100037_5 r100037_6 r100037_7 r100037_8 r100037_9 r100037_10 r100037_11 r100037_12 r100037_13 r100037_14 r100037_15 r100037_16 r100037_17 r100037_18 r100037_19 f539 f540 f541 f542 f543 f544 f545 f546 f547 f548 f549 f550 f551 f552 f553 f554 f555 f556 f557 f558 f559 f560 f561 f562 f563 f564 f565 f566 f567 f568 f569 f570 => ?_)
    have j_200048 : ∀ (s0_200048 : Int32), ((s0_200048.toInt = 0 ∧ r100037.toInt = 0) ∨ (s0_200048.toInt = 1)) → w_X8_make_v2_200048 h1 Q s0_200048 r6_0 r6_1 r18_0 r18_1 r18_2 r18_3 r18_4 r18_5 r18_6 r18_7 r18_8 r18_9 r18_10 r18_11 r18_12 r18_13 r18_14 r18_15 r18_16 r18_17 r18_18 r18_19 r100037_0 r100037_1 r100037_2 r100037_3 r100037_4 r100037_5 r100037_6 r100037_7 r100037_8 r100037_9 r100037_10 r100037_11 r100037_12 r100037_13 r100037_14 r100037_15 r100037_16 r100037_17 r100037_18 r100037_19 := by
      intro s0_200048 f571
      unfold w_X8_make_v2_200048
      refine ⟨i_01 (by omega) (by omega), ?_⟩
      exact hq s0_200048 r6_0 r6_1 r18_0 r18_1 r18_2 r18_3 r18_4 r18_5 r18_6 r18_7 r18_8 r18_9 r18_10 r18_11 r18_12 r18_13 r18_14 r18_15 r18_16 r18_17 r18_18 r18_19 r100037_0 r100037_1 r100037_2 r100037_3 r100037_4 r100037_5 r100037_6 h1 r100037_7 r100037_8 r100037_9 r100037_10 r100037_11 r100037_12 r100037_13 r100037_14 r100037_15 r100037_16 r100037_17 r100037_18 r100037_19 (by omega) (by omega) (by omega) (by omega) (by omega) (by omega) (by omega) (by omega) (by omega) (by omega) (by omega) (by omega) (by omega) (by omega) (by omega) (by omega) (by omega) (by omega) (by omega) (by omega) (by omega) (by omega) (by omega) (by omega) (by omega) (by omega) (by omega) (by omega) (by omega) (by omega) (by omega) (by omega)
    refine ⟨fun c200040 => ?_, fun c200040 => ?_⟩
    · have f572 : r100037.toInt = 0 := i_eq (a := r100037.toInt) (b := 0) rfl rfl c200040
      exact j_200048 0 (by omega)
    · have f573 : r100037.toInt ≠ 0 := i_ne (a := r100037.toInt) (b := 0) rfl rfl c200040
      exact j_200048 1 (by omega)
set_option maxHeartbeats 4000000 in
theorem ok_X11_makeTables_v1 {v_sets_alphabet_count : Int32} {v_sets_alphabet_begins : Nat → Int32} {v_sets_one_count : Int32} {v_sets_one_positionCount : Int32} {v_sets_one_stamp : Int32} {v_sets_one_stackCount : Int32} {v_sets_one_width : Int32} {v_sets_one_program_start : Int32} {v_sets_one_program_count : Int32} {v_sets_one_program_kinds : Nat → Int32} {v_sets_one_program_subjects : Nat → Int32} {v_sets_one_program_nexts : Nat → Int32} {v_sets_one_program_others : Nat → Int32} {v_sets_one_positionOf : Nat → Int32} {v_sets_one_pcOf : Nat → Int32} {v_sets_one_follow : Nat → Int64} {v_sets_one_takers : Nat → Int64} {v_sets_one_seen : Nat → Int32} {v_sets_one_stack : Nat → Int32} {v_sets_one_states : Nat → Int64} {v_sets_one_ahead : Nat → Int64} {v_sets_one_goes : Nat → Int32} {v_sets_other_count : Int32} {v_sets_other_positionCount : Int32} {v_sets_other_stamp : Int32} {v_sets_other_stackCount : Int32} {v_sets_other_width : Int32} {v_sets_other_program_start : Int32} {v_sets_other_program_count : Int32} {v_sets_other_program_kinds : Nat → Int32} {v_sets_other_program_subjects : Nat → Int32} {v_sets_other_program_nexts : Nat → Int32} {v_sets_other_program_others : Nat → Int32} {v_sets_other_positionOf : Nat → Int32} {v_sets_other_pcOf : Nat → Int32} {v_sets_other_follow : Nat → Int64} {v_sets_other_takers : Nat → Int64} {v_sets_other_seen : Nat → Int32} {v_sets_other_stack : Nat → Int32} {v_sets_other_states : Nat → Int64} {v_sets_other_ahead : Nat → Int64} {v_sets_other_goes : Nat → Int32} {a1_there : Bool} {a1_count : Int32} {a1_captures : Int32} {a1_ranges : Int32} {a1_sort : Nat → Int32} {a1_end : Nat → Int32} {a1_before : Nat → Int32} {a1_last : Nat → Int32} {a1_parts : Nat → Int32} {a1_value : Nat → Int32} {a1_low : Nat → Int32} {a1_high : Nat → Int32} {a1_size : Nat → Int32} {a1_positions : Nat → Int32} {a1_mayBeEmpty : Nat → Bool} {a1_withinCase : Nat → Bool} {a1_rangeBegin : Nat → Int32} {a1_rangeEnd : Nat → Int32} {h67 : Nat} {h71 : Nat} {h1 : Nat} {Q : Int32 → Int32 → (Nat → Int32) → Int32 → Int32 → Int32 → Int32 → Int32 → Int32 → Int32 → Nat → (Nat → Int32) → (Nat → Int32) → (Nat → Int32) → (Nat → Int32) → (Nat → Int32) → (Nat → Int32) → (Nat → Int64) → (Nat → Int64) → (Nat → Int32) → (Nat → Int32) → (Nat → Int64) → (Nat → Int64) → (Nat → Int32) → Int32 → Int32 → Int32 → Int32 → Int32 → Int32 → Int32 → Nat → (Nat → Int32) → (Nat → Int32) → (Nat → Int32) → (Nat → Int32) → (Nat → Int32) → (Nat → Int32) → (Nat → Int64) → (Nat → Int64) → (Nat → Int32) → (Nat → Int32) → (Nat → Int64) → (Nat → Int64) → (Nat → Int32) → Prop} (a0 : 0 ≤ v_sets_alphabet_count.toInt) (a1 : v_sets_alphabet_count.toInt ≤ 256) (a2 : 0 ≤ v_sets_one_count.toInt) (a3 : v_sets_one_count.toInt ≤ 60) (a4 : 0 ≤ v_sets_one_positionCount.toInt) (a5 : v_sets_one_positionCount.toInt ≤ 60) (a6 : 0 ≤ v_sets_one_width.toInt) (a7 : v_sets_one_width.toInt ≤ 256) (a8 : 0 ≤ v_sets_one_program_count.toInt) (a9 : v_sets_one_program_count.toInt ≤ 512) (a10 : 0 ≤ v_sets_other_count.toInt) (a11 : v_sets_other_count.toInt ≤ 60) (a12 : 0 ≤ v_sets_other_positionCount.toInt) (a13 : v_sets_other_positionCount.toInt ≤ 60) (a14 : 0 ≤ v_sets_other_width.toInt) (a15 : v_sets_other_width.toInt ≤ 256) (a16 : 0 ≤ v_sets_other_program_count.toInt) (a17 : v_sets_other_program_count.toInt ≤ 512) (a18 : 0 ≤ a1_count.toInt) (a19 : a1_count.toInt ≤ 256) (a20 : 0 ≤ a1_ranges.toInt) (a21 : a1_ranges.toInt ≤ 512) (b0 : rp (fun k v => -1 ≤ v ∧ v ≤ 255) a1_last 0 a1_count.toInt) (b1 : rp (fun k v => k < v ∧ v ≤ 256) a1_end 0 a1_count.toInt) (b2 : rp (fun k v => v < k ∧ -1 ≤ v) a1_before 0 a1_count.toInt) (hq : ∀ (r : Int32) (ov_sets_alphabet_count : Int32) (ov_sets_alphabet_begins : Nat → Int32) (ov_sets_one_count : Int32) (ov_sets_one_positionCount : Int32) (ov_sets_one_stamp : Int32) (ov_sets_one_stackCount : Int32) (ov_sets_one_width : Int32) (ov_sets_one_program_start : Int32) (ov_sets_one_program_count : Int32) (oh67 : Nat) (ov_sets_one_program_kinds : Nat → Int32) (ov_sets_one_program_subjects : Nat → Int32) (ov_sets_one_program_nexts : Nat → Int32) (ov_sets_one_program_others : Nat → Int32) (ov_sets_one_positionOf : Nat → Int32) (ov_sets_one_pcOf : Nat → Int32) (ov_sets_one_follow : Nat → Int64) (ov_sets_one_takers : Nat → Int64) (ov_sets_one_seen : Nat → Int32) (ov_sets_one_stack : Nat → Int32) (ov_sets_one_states : Nat → Int64) (ov_sets_one_ahead : Nat → Int64) (ov_sets_one_goes : Nat → Int32) (ov_sets_other_count : Int32) (ov_sets_other_positionCount : Int32) (ov_sets_other_stamp : Int32) (ov_sets_other_stackCount : Int32) (ov_sets_other_width : Int32) (ov_sets_other_program_start : Int32) (ov_sets_other_program_count : Int32) (oh71 : Nat) (ov_sets_other_program_kinds : Nat → Int32) (ov_sets_other_program_subjects : Nat → Int32) (ov_sets_other_program_nexts : Nat → Int32) (ov_sets_other_program_others : Nat → Int32) (ov_sets_other_positionOf : Nat → Int32) (ov_sets_other_pcOf : Nat → Int32) (ov_sets_other_follow : Nat → Int64) (ov_sets_other_takers : Nat → Int64) (ov_sets_other_seen : Nat → Int32) (ov_sets_other_stack : Nat → Int32) (ov_sets_other_states : Nat → Int64) (ov_sets_other_ahead : Nat → Int64) (ov_sets_other_goes : Nat → Int32), 0 ≤ r.toInt + 7 → r.toInt ≤ 0 → 0 ≤ ov_sets_alphabet_count.toInt → ov_sets_alphabet_count.toInt ≤ 256 → 0 ≤ ov_sets_one_count.toInt → ov_sets_one_count.toInt ≤ 60 → 0 ≤ ov_sets_one_positionCount.toInt → ov_sets_one_positionCount.toInt ≤ 60 → 0 ≤ ov_sets_one_width.toInt → ov_sets_one_width.toInt ≤ 256 → 0 ≤ ov_sets_one_program_count.toInt → ov_sets_one_program_count.toInt ≤ 512 → 0 ≤ ov_sets_other_count.toInt → ov_sets_other_count.toInt ≤ 60 → 0 ≤ ov_sets_other_positionCount.toInt → ov_sets_other_positionCount.toInt ≤ 60 → 0 ≤ ov_sets_other_width.toInt → ov_sets_other_width.toInt ≤ 256 → 0 ≤ ov_sets_other_program_count.toInt → ov_sets_other_program_count.toInt ≤ 512 → Q r ov_sets_alphabet_count ov_sets_alphabet_begins ov_sets_one_count ov_sets_one_positionCount ov_sets_one_stamp ov_sets_one_stackCount ov_sets_one_width ov_sets_one_program_start ov_sets_one_program_count oh67 ov_sets_one_program_kinds ov_sets_one_program_subjects ov_sets_one_program_nexts ov_sets_one_program_others ov_sets_one_positionOf ov_sets_one_pcOf ov_sets_one_follow ov_sets_one_takers ov_sets_one_seen ov_sets_one_stack ov_sets_one_states ov_sets_one_ahead ov_sets_one_goes ov_sets_other_count ov_sets_other_positionCount ov_sets_other_stamp ov_sets_other_stackCount ov_sets_other_width ov_sets_other_program_start ov_sets_other_program_count oh71 ov_sets_other_program_kinds ov_sets_other_program_subjects ov_sets_other_program_nexts ov_sets_other_program_others ov_sets_other_positionOf ov_sets_other_pcOf ov_sets_other_follow ov_sets_other_takers ov_sets_other_seen ov_sets_other_stack ov_sets_other_states ov_sets_other_ahead ov_sets_other_goes) : w_X11_makeTables_v1 v_sets_alphabet_count v_sets_alphabet_begins v_sets_one_count v_sets_one_positionCount v_sets_one_stamp v_sets_one_stackCount v_sets_one_width v_sets_one_program_start v_sets_one_program_count v_sets_one_program_kinds v_sets_one_program_subjects v_sets_one_program_nexts v_sets_one_program_others v_sets_one_positionOf v_sets_one_pcOf v_sets_one_follow v_sets_one_takers v_sets_one_seen v_sets_one_stack v_sets_one_states v_sets_one_ahead v_sets_one_goes v_sets_other_count v_sets_other_positionCount v_sets_other_stamp v_sets_other_stackCount v_sets_other_width v_sets_other_program_start v_sets_other_program_count v_sets_other_program_kinds v_sets_other_program_subjects v_sets_other_program_nexts v_sets_other_program_others v_sets_other_positionOf v_sets_other_pcOf v_sets_other_follow v_sets_other_takers v_sets_other_seen v_sets_other_stack v_sets_other_states v_sets_other_ahead v_sets_other_goes a1_there a1_count a1_captures a1_ranges a1_sort a1_end a1_before a1_last a1_parts a1_value a1_low a1_high a1_size a1_positions a1_mayBeEmpty a1_withinCase a1_rangeBegin a1_rangeEnd h67 h71 h1 Q := by
  have q_t : (bz true).toInt = 1 := rfl
  have q_f : (bz false).toInt = 0 := rfl
  have q_m7 : ((-7) : Int32).toInt = (-7) := rfl
  have q_m6 : ((-6) : Int32).toInt = (-6) := rfl
  have q_0 : (0 : Int32).toInt = 0 := rfl
  have q_2 : (2 : Int32).toInt = 2 := rfl
  unfold w_X11_makeTables_v1
  refine ok_X10_isTakenBy (by omega) (by omega) (rp_mono b1 (by omega) (by omega)) (fun r2 f501 => ?_)
  have j_20 : w_X11_makeTables_v1_20 h67 Q v_sets_alphabet_count v_sets_alphabet_begins v_sets_one_count v_sets_one_positionCount v_sets_one_stamp v_sets_one_stackCount v_sets_one_width v_sets_one_program_start v_sets_one_program_count v_sets_one_program_kinds v_sets_one_program_subjects v_sets_one_program_nexts v_sets_one_program_others v_sets_one_positionOf v_sets_one_pcOf v_sets_one_follow v_sets_one_takers v_sets_one_seen v_sets_one_stack v_sets_one_states v_sets_one_ahead v_sets_one_goes v_sets_other_count v_sets_other_positionCount v_sets_other_stamp v_sets_other_stackCount v_sets_other_width v_sets_other_program_start v_sets_other_program_count h71 v_sets_other_program_kinds v_sets_other_program_subjects v_sets_other_program_nexts v_sets_other_program_others v_sets_other_positionOf v_sets_other_pcOf v_sets_other_follow v_sets_other_takers v_sets_other_seen v_sets_other_stack v_sets_other_states v_sets_other_ahead v_sets_other_goes := by
    unfold w_X11_makeTables_v1_20
    exact hq (-6) v_sets_alphabet_count v_sets_alphabet_begins v_sets_one_count v_sets_one_positionCount v_sets_one_stamp v_sets_one_stackCount v_sets_one_width v_sets_one_program_start v_sets_one_program_count h67 v_sets_one_program_kinds v_sets_one_program_subjects v_sets_one_program_nexts v_sets_one_program_others v_sets_one_positionOf v_sets_one_pcOf v_sets_one_follow v_sets_one_takers v_sets_one_seen v_sets_one_stack v_sets_one_states v_sets_one_ahead v_sets_one_goes v_sets_other_count v_sets_other_positionCount v_sets_other_stamp v_sets_other_stackCount v_sets_other_width v_sets_other_program_start v_sets_other_program_count h71 v_sets_other_program_kinds v_sets_other_program_subjects v_sets_other_program_nexts v_sets_other_program_others v_sets_other_positionOf v_sets_other_pcOf v_sets_other_follow v_sets_other_takers v_sets_other_seen v_sets_other_stack v_sets_other_states v_sets_other_ahead v_sets_other_goes (by omega) (by omega) (by omega) (by omega) (by omega) (by omega) (by omega) (by omega) (by omega) (by omega) (by omega) (by omega) (by omega) (by omega) (by omega) (by omega) (by omega) (by omega) (by omega) (by omega)
  refine ⟨fun c5 => ?_, fun c5 => ?_⟩
  · have f502 : r2.toInt = 0 := i_eq (a := r2.toInt) (b := 0) rfl rfl c5
    exact j_20  
  · have f503 : r2.toInt ≠ 0 := i_ne (a := r2.toInt) (b := 0) rfl rfl c5
    refine ok_X10_isTakenBy (by omega) (by omega) (rp_mono b1 (by omega) (by omega)) (fun r14 f504 => ?_)
    refine ⟨fun c17 => ?_, fun c17 => ?_⟩
    · have f505 : r14.toInt ≠ 0 := i_ne (a := r14.toInt) (b := 0) rfl rfl c17
      refine ok_X10_isTooLargeFor (by omega) (by omega) (fun r25 f506 f507 f508 => ?_)
      have j_43 : w_X11_makeTables_v1_43 h67 Q v_sets_alphabet_count v_sets_alphabet_begins v_sets_one_count v_sets_one_positionCount v_sets_one_stamp v_sets_one_stackCount v_sets_one_width v_sets_one_program_start v_sets_one_program_count v_sets_one_program_kinds v_sets_one_program_subjects v_sets_one_program_nexts v_sets_one_program_others v_sets_one_positionOf v_sets_one_pcOf v_sets_one_follow v_sets_one_takers v_sets_one_seen v_sets_one_stack v_sets_one_states v_sets_one_ahead v_sets_one_goes v_sets_other_count v_sets_other_positionCount v_sets_other_stamp v_sets_other_stackCount v_sets_other_width v_sets_other_program_start v_sets_other_program_count h71 v_sets_other_program_kinds v_sets_other_program_subjects v_sets_other_program_nexts v_sets_other_program_others v_sets_other_positionOf v_sets_other_pcOf v_sets_other_follow v_sets_other_takers v_sets_other_seen v_sets_other_stack v_sets_other_states v_sets_other_ahead v_sets_other_goes := by
        unfold w_X11_makeTables_v1_43
        exact hq (-7) v_sets_alphabet_count v_sets_alphabet_begins v_sets_one_count v_sets_one_positionCount v_sets_one_stamp v_sets_one_stackCount v_sets_one_width v_sets_one_program_start v_sets_one_program_count h67 v_sets_one_program_kinds v_sets_one_program_subjects v_sets_one_program_nexts v_sets_one_program_others v_sets_one_positionOf v_sets_one_pcOf v_sets_one_follow v_sets_one_takers v_sets_one_seen v_sets_one_stack v_sets_one_states v_sets_one_ahead v_sets_one_goes v_sets_other_count v_sets_other_positionCount v_sets_other_stamp v_sets_other_stackCount v_sets_other_width v_sets_other_program_start v_sets_other_program_count h71 v_sets_other_program_kinds v_sets_other_program_subjects v_sets_other_program_nexts v_sets_other_program_others v_sets_other_positionOf v_sets_other_pcOf v_sets_other_follow v_sets_other_takers v_sets_other_seen v_sets_other_stack v_sets_other_states v_sets_other_ahead v_sets_other_goes (by omega) (by omega) (by omega) (by omega) (by omega) (by omega) (by omega) (by omega) (by omega) (by omega) (by omega) (by omega) (by omega) (by omega) (by omega) (by omega) (by omega) (by omega) (by omega) (by omega)
      refine ⟨fun c28 => ?_, fun c28 => ?_⟩
      · have f509 : r25.toInt ≠ 0 := i_ne (a := r25.toInt) (b := 0) rfl rfl c28
        exact j_43  
      · have f510 : r25.toInt = 0 := i_eq (a := r25.toInt) (b := 0) rfl rfl c28
        refine ok_X10_isTooLargeFor (by omega) (by omega) (fun r37 f511 f512 f513 => ?_)
        refine ⟨fun c40 => ?_, fun c40 => ?_⟩
        · have f514 : r37.toInt = 0 := i_eq (a := r37.toInt) (b := 0) rfl rfl c40
          refine ok_X8_make_v2 (by omega) (by omega) (by omega) (by omega) (by omega) (by omega) (by omega) (by omega) (by omega) (by omega) (by omega) (by omega) (by omega) (by omega) (rp_mono b0 (by omega) (by omega)) (rp_mono b1 (by omega) (by omega)) (rp_mono b2 (by omega) (by omega)) (fun r52 r52_0 r52_1 r52_2 r52_3 r52_4 r52_5 r52_6 r52_7 r52_8 r52_9 r52_10 r52_11 r52_12 r52_13 r52_14 r52_15 r52_16 r52_17 r52_18 r52_19 r52_20 r52_21 r52_22 r52_23 r52_24 r52_25 r52_26 r52_27 r52_28 r52_29 r52_30 r52_31 r52_32 r52_33 r52_34 r52_35 r52_36 r52_37 r52_38 r52_39 r52_40 r52_41 r52_42 f515 f516 f517 f518 f519 f520 f521 f522 f523 f524 f525 f526 f527 f528 f529 f530 f531 f532 f533 f534 f535 f536 f537 f538 f539 f540 f541 f542 f543 f544 f545 f546 => ?_)
          have j_100064 : ∀ (s0_100064 : Int32), ((s0_100064.toInt + 7 = 0 ∧ r52.toInt = 0) ∨ (s0_100064.toInt = 0)) → w_X11_makeTables_v1_100064 h1 Q s0_100064 r52_0 r52_1 r52_2 r52_3 r52_4 r52_5 r52_6 r52_7 r52_8 r52_9 r52_10 r52_11 r52_12 r52_13 r52_14 r52_15 r52_16 r52_17 r52_18 r52_19 r52_20 r52_21 r52_22 r52_23 r52_24 r52_25 r52_26 r52_27 r52_28 r52_29 r52_30 r52_31 r52_32 r52_33 r52_34 r52_35 r52_36 r52_37 r52_38 r52_39 r52_40 r52_41 r52_42 := by
            intro s0_100064 f547
            unfold w_X11_makeTables_v1_100064
            exact hq s0_100064 r52_0 r52_1 r52_2 r52_3 r52_4 r52_5 r52_6 r52_7 r52_8 h1 r52_9 r52_10 r52_11 r52_12 r52_13 r52_14 r52_15 r52_16 r52_17 r52_18 r52_19 r52_20 r52_21 r52_22 r52_23 r52_24 r52_25 r52_26 r52_27 r52_28 r52_29 r52_30 r52_31 r52_32 r52_33 r52_34 r52_35 r52_36 r52_37 r52_38 r52_39 r52_40 r52_41 r52_42 (by omega) (by omega) (by omega) (by omega) (by omega) (by omega) (by omega) (by omega) (by omega) (by omega) (by omega) (by omega) (by omega) (by omega) (by omega) (by omega) (by omega) (by omega) (by omega) (by omega)
          refine ⟨fun c100055 => ?_, fun c100055 => ?_⟩
          · have f548 : r52.toInt = 0 := i_eq (a := r52.toInt) (b := 0) rfl rfl c100055
            exact j_100064 (-7) (by omega)
          · have f549 : r52.toInt ≠ 0 := i_ne (a := r52.toInt) (b := 0) rfl rfl c100055
            exact j_100064 0 (by omega)
        · have f550 : r37.toInt ≠ 0 := i_ne (a := r37.toInt) (b := 0) rfl rfl c40
          exact j_43  
    · have f551 : r14.toInt = 0 := i_eq (a := r14.toInt) (b := 0) rfl rfl c17
      exact j_20  
set_option maxHeartbeats 4000000 in
theorem ok_X11_told {p1 : Int32} {v_outHasNumbers : Bool} {v_openSlot : Int32} {v_tape_count : Int32} {v_patterns : Nat → Option Nat} {v_subjects : Nat → Option Nat} {v_outRow_count : Int32} {v_found_count : Int32} {v_patterns_0_there : Bool} {v_patterns_1_there : Bool} {v_patterns_2_there : Bool} {v_patterns_3_there : Bool} {v_patterns_4_there : Bool} {v_patterns_5_there : Bool} {v_subjects_0_there : Bool} {v_subjects_1_there : Bool} {v_subjects_2_there : Bool} {v_subjects_3_there : Bool} {h6 : Nat} {h7 : Nat} {h8 : Nat} {h9 : Nat} {h10 : Nat} {h11 : Nat} {h12 : Nat} {h13 : Nat} {h14 : Nat} {h15 : Nat} {Q : Int32 → Prop} (a0 : 0 ≤ v_tape_count.toInt) (a1 : 0 ≤ v_outRow_count.toInt) (a2 : 0 ≤ v_found_count.toInt) (v0 : v_patterns (0 : Int32).toNatClampNeg = some h6) (v1 : v_patterns (1 : Int32).toNatClampNeg = some h7) (v2 : v_patterns (2 : Int32).toNatClampNeg = some h8) (v3 : v_patterns (3 : Int32).toNatClampNeg = some h9) (v4 : v_patterns (4 : Int32).toNatClampNeg = some h10) (v5 : v_patterns (5 : Int32).toNatClampNeg = some h11) (v6 : v_subjects (0 : Int32).toNatClampNeg = some h12) (v7 : v_subjects (1 : Int32).toNatClampNeg = some h13) (v8 : v_subjects (2 : Int32).toNatClampNeg = some h14) (v9 : v_subjects (3 : Int32).toNatClampNeg = some h15) (hq : ∀ (r : Int32), 0 ≤ r.toInt + 4 → Q r) : w_X11_told p1 v_outHasNumbers v_openSlot v_tape_count v_patterns v_subjects v_outRow_count v_found_count v_patterns_0_there v_patterns_1_there v_patterns_2_there v_patterns_3_there v_patterns_4_there v_patterns_5_there v_subjects_0_there v_subjects_1_there v_subjects_2_there v_subjects_3_there h6 h7 h8 h9 h10 h11 h12 h13 h14 h15 Q := by
  have q_t : (bz true).toInt = 1 := rfl
  have q_f : (bz false).toInt = 0 := rfl
  have q_m4 : ((-4) : Int32).toInt = (-4) := rfl
  have q_0 : (0 : Int32).toInt = 0 := rfl
  have q_1 : (1 : Int32).toInt = 1 := rfl
  unfold w_X11_told
  refine ⟨fun c1_0 => ?_, fun c1_1 => ?_, fun c1_2 => ?_, fun c1_3 => ?_, fun c1_4 => ?_, fun c1_5 => ?_, fun c1_6 => ?_, ?_⟩
  · have f1 : p1.toInt = 0 := i_eq (a := p1.toInt) (b := 0) rfl rfl c1_0
    exact hq v_tape_count (by omega)
  · have f2 : p1.toInt = 1 := i_eq (a := p1.toInt) (b := 1) rfl rfl c1_1
    refine ok_X11_patternsThere v0 v1 v2 v3 v4 v5 (fun r53 f3 f4 => ?_)
    exact hq r53 (by omega)
  · have f5 : p1.toInt = 2 := i_eq (a := p1.toInt) (b := 2) rfl rfl c1_2
    refine ok_X11_subjectsThere v6 v7 v8 v9 (fun r58 f6 f7 => ?_)
    exact hq r58 (by omega)
  · have f8 : p1.toInt = 3 := i_eq (a := p1.toInt) (b := 3) rfl rfl c1_3
    exact hq v_outRow_count (by omega)
  · have f9 : p1.toInt = 4 := i_eq (a := p1.toInt) (b := 4) rfl rfl c1_4
    have f10 : (0 ≤ (bz v_outHasNumbers).toInt ∧ (bz v_outHasNumbers).toInt ≤ 1) := i_bzr v_outHasNumbers
    have j_82 : ∀ (s0_82 : Int32), ((s0_82.toInt = 0 ∧ (bz v_outHasNumbers).toInt = 0) ∨ (s0_82.toInt = 1)) → w_X11_told_82 Q s0_82 := by
      intro s0_82 f11
      unfold w_X11_told_82
      exact hq s0_82 (by omega)
    refine ⟨fun c74 => ?_, fun c74 => ?_⟩
    · have f12 : (bz v_outHasNumbers).toInt = 0 := i_eq (a := (bz v_outHasNumbers).toInt) (b := 0) rfl rfl c74
      exact j_82 0 (by omega)
    · have f13 : (bz v_outHasNumbers).toInt ≠ 0 := i_ne (a := (bz v_outHasNumbers).toInt) (b := 0) rfl rfl c74
      exact j_82 1 (by omega)
  · have f14 : p1.toInt = 5 := i_eq (a := p1.toInt) (b := 5) rfl rfl c1_5
    refine ok_X11_capturesOfFound (by omega) (fun r84 f15 => ?_)
    exact hq r84 (by omega)
  · have f16 : p1.toInt = 6 := i_eq (a := p1.toInt) (b := 6) rfl rfl c1_6
    have j_101 : ∀ (s0_101 : Int32), ((s0_101.toInt = 1) ∨ (s0_101.toInt = 0 ∧ v_openSlot.toInt + 1 = 0)) → w_X11_told_101 Q s0_101 := by
      intro s0_101 f17
      unfold w_X11_told_101
      exact hq s0_101 (by omega)
    refine ⟨fun c93 => ?_, fun c93 => ?_⟩
    · have f18 : v_openSlot.toInt ≠ (-1) := i_ne (a := v_openSlot.toInt) (b := (-1)) rfl rfl c93
      exact j_101 1 (by omega)
    · have f19 : v_openSlot.toInt = (-1) := i_eq (a := v_openSlot.toInt) (b := (-1)) rfl rfl c93
      exact j_101 0 (by omega)
  · intro c1_0 c1_1 c1_2 c1_3 c1_4 c1_5 c1_6
    have f20 : p1.toInt ≠ 0 := i_ne (a := p1.toInt) (b := 0) rfl rfl c1_0
    have f21 : p1.toInt ≠ 1 := i_ne (a := p1.toInt) (b := 1) rfl rfl c1_1
    have f22 : p1.toInt ≠ 2 := i_ne (a := p1.toInt) (b := 2) rfl rfl c1_2
    have f23 : p1.toInt ≠ 3 := i_ne (a := p1.toInt) (b := 3) rfl rfl c1_3
    have f24 : p1.toInt ≠ 4 := i_ne (a := p1.toInt) (b := 4) rfl rfl c1_4
    have f25 : p1.toInt ≠ 5 := i_ne (a := p1.toInt) (b := 5) rfl rfl c1_5
    have f26 : p1.toInt ≠ 6 := i_ne (a := p1.toInt) (b := 6) rfl rfl c1_6
    exact hq (-4) (by omega)
set_option maxHeartbeats 4000000 in
theorem ok_X11_isDigit {p0 : Int32} {Q : Int32 → Prop} (hq : ∀ (r : Int32), ((r.toInt = 1 ∧ 48 ≤ p0.toInt ∧ p0.toInt ≤ 57) ∨ (r.toInt = 0)) → Q r) : w_X11_isDigit p0 Q := by
  have q_t : (bz true).toInt = 1 := rfl
  have q_f : (bz false).toInt = 0 := rfl
  have q_0 : (0 : Int32).toInt = 0 := rfl
  have q_1 : (1 : Int32).toInt = 1 := rfl
  unfold w_X11_isDigit
  have j_17 : ∀ (s0_17 : Int32), ((s0_17.toInt = 1 ∧ 48 ≤ p0.toInt ∧ p0.toInt ≤ 57) ∨ (s0_17.toInt = 0)) → w_X11_isDigit_17 Q s0_17 := by
    intro s0_17 f1
    unfold w_X11_isDigit_17
    refine ⟨i_01 (by omega) (by omega), ?_⟩
    exact hq s0_17 (by omega)
  have j_16 : ((p0.toInt ≤ 47) ∨ (48 ≤ p0.toInt ∧ 58 ≤ p0.toInt)) → w_X11_isDigit_16 Q := by
    intro f2
    unfold w_X11_isDigit_16
    exact j_17 0 (by omega)
  refine ⟨fun c3 => ?_, fun c3 => ?_⟩
  · have f3 : p0.toInt < 48 := i_lt (a := p0.toInt) (b := 48) rfl rfl c3
    exact j_16  (by omega)
  · have f4 : 48 ≤ p0.toInt := i_nlt (a := p0.toInt) (b := 48) rfl rfl c3
    refine ⟨fun c9 => ?_, fun c9 => ?_⟩
    · have f5 : 57 < p0.toInt := i_lt (a := 57) (b := p0.toInt) rfl rfl c9
      exact j_16  (by omega)
    · have f6 : p0.toInt ≤ 57 := i_nlt (a := 57) (b := p0.toInt) rfl rfl c9
      exact j_17 1 (by omega)
set_option maxHeartbeats 4000000 in
theorem ok_X11_tapeTellsFor {v_tape_count : Int32} {v_tape_items : Nat → Int32} {nv_tape_items : Nat} {a1_captures : Int32} {Q : Int32 → Prop} (a0 : 0 ≤ v_tape_count.toInt) (a1 : v_tape_count.toInt ≤ (nv_tape_items : Int)) (a2 : (nv_tape_items : Int) ≤ 1000) (hq : ∀ (r : Int32), ((r.toInt = 1) ∨ (r.toInt = 0)) → Q r) : w_X11_tapeTellsFor v_tape_count v_tape_items nv_tape_items a1_captures Q := by
  have q_t : (bz true).toInt = 1 := rfl
  have q_f : (bz false).toInt = 0 := rfl
  have q_0 : (0 : Int32).toInt = 0 := rfl
  have q_1 : (1 : Int32).toInt = 1 := rfl
  unfold w_X11_tapeTellsFor
  have j_2 : ∀ n_2 : Nat, ∀ (l2_2 : Int32), 0 ≤ l2_2.toInt → l2_2.toInt ≤ v_tape_count.toInt + 1 → ((-1) * l2_2.toInt + 2147483648).toNat < n_2 → w_X11_tapeTellsFor_2 v_tape_count v_tape_items nv_tape_items a1_captures Q n_2 l2_2 := by
    intro n_2
    induction n_2 with
    | zero =>
      intro l2_2 f1 f2 hm_2
      exfalso; omega
    | succ n_2 ih_2 =>
      intro l2_2 f1 f2 hm_2
      unfold w_X11_tapeTellsFor_2
      unfold w_X11_tapeTellsFor_2B
      refine ⟨fun c10 => ?_, fun c10 => ?_⟩
      · have f3 : v_tape_count.toInt ≤ l2_2.toInt := i_le (a := v_tape_count.toInt) (b := l2_2.toInt) rfl rfl c10
        exact hq 1 (by omega)
      · have f4 : l2_2.toInt < v_tape_count.toInt := i_nle (a := v_tape_count.toInt) (b := l2_2.toInt) rfl rfl c10
        refine ok_X7_at (by omega) (by omega) (by omega) (fun r18 f5 => ?_)
        have j_66 : ∀ (l2_66 : Int32), l2_2.toInt ≤ l2_66.toInt → l2_66.toInt ≤ l2_2.toInt + 1 → ((r18.toInt = 36 ∧ l2_66.toInt = l2_2.toInt + 1) ∨ (l2_66.toInt = l2_2.toInt)) → l2_66.toInt ≤ 999 → w_X11_tapeTellsFor_66 Q (w_X11_tapeTellsFor_2 v_tape_count v_tape_items nv_tape_items a1_captures Q n_2) l2_66 := by
          intro l2_66 f6 f7 f8 f9
          unfold w_X11_tapeTellsFor_66
          intro x66 ex66
          have f10 : x66.toInt = l2_66.toInt + 1 := i_add (a := l2_66.toInt) (b := 1) ex66 rfl rfl (by omega) (by omega)
          exact ih_2 x66  (by omega) (by omega) (by have h8_0 := i_rng l2_2; have h8_1 := i_rng x66; omega)
        refine ⟨fun c23 => ?_, fun c23 => ?_⟩
        · have f11 : r18.toInt = 36 := i_eq (a := r18.toInt) (b := 36) rfl rfl c23
          intro x29 ex29
          have f12 : x29.toInt = l2_2.toInt + 1 := i_add (a := l2_2.toInt) (b := 1) ex29 rfl rfl (by omega) (by omega)
          refine ok_X7_at (by omega) (by omega) (by omega) (fun r37 f13 => ?_)
          have j_64 : ((r37.toInt + 1 = 0) ∨ (a1_captures.toInt + 49 ≤ r37.toInt)) → w_X11_tapeTellsFor_64 Q := by
            intro f14
            unfold w_X11_tapeTellsFor_64
            exact hq 0 (by omega)
          refine ⟨fun c43 => ?_, fun c43 => ?_⟩
          · have f15 : r37.toInt = (-1) := i_eq (a := r37.toInt) (b := (-1)) rfl rfl c43
            exact j_64  (by omega)
          · have f16 : r37.toInt ≠ (-1) := i_ne (a := r37.toInt) (b := (-1)) rfl rfl c43
            refine ok_X11_isDigit  (fun r47 f17 => ?_)
            refine ⟨fun c50 => ?_, fun c50 => ?_⟩
            · have f18 : r47.toInt = 0 := i_eq (a := r47.toInt) (b := 0) rfl rfl c50
              exact j_66 x29 (by omega) (by omega) (by omega) (by omega)
            · have f19 : r47.toInt ≠ 0 := i_ne (a := r47.toInt) (b := 0) rfl rfl c50
              intro x56 ex56
              have f20 : x56.toInt = r37.toInt - 48 := i_sub (a := r37.toInt) (b := 48) ex56 rfl rfl (by omega) (by omega)
              refine ⟨fun c61 => ?_, fun c61 => ?_⟩
              · have f21 : x56.toInt ≤ a1_captures.toInt := i_le (a := x56.toInt) (b := a1_captures.toInt) rfl rfl c61
                exact j_66 x29 (by omega) (by omega) (by omega) (by omega)
              · have f22 : a1_captures.toInt < x56.toInt := i_nle (a := x56.toInt) (b := a1_captures.toInt) rfl rfl c61
                exact j_64  (by omega)
        · have f23 : r18.toInt ≠ 36 := i_ne (a := r18.toInt) (b := 36) rfl rfl c23
          exact j_66 l2_2 (by omega) (by omega) (by omega) (by omega)
  exact ⟨(2147483648 : Int).toNat + 1, j_2   ((2147483648 : Int).toNat + 1) 0  (by omega) (by omega) (by omega)⟩
set_option maxHeartbeats 4000000 in
theorem ok_X11_prefix {p1 : Int32} {p2 : Int32} {p3 : Int32} {v_latestFinding : Int32} {v_patterns : Nat → Option Nat} {v_subjects : Nat → Option Nat} {v_sets_alphabet_count : Int32} {v_sets_alphabet_begins : Nat → Int32} {v_sets_one_count : Int32} {v_sets_one_positionCount : Int32} {v_sets_one_stamp : Int32} {v_sets_one_stackCount : Int32} {v_sets_one_width : Int32} {v_sets_one_program_start : Int32} {v_sets_one_program_count : Int32} {v_sets_one_program_kinds : Nat → Int32} {v_sets_one_program_subjects : Nat → Int32} {v_sets_one_program_nexts : Nat → Int32} {v_sets_one_program_others : Nat → Int32} {v_sets_one_positionOf : Nat → Int32} {v_sets_one_pcOf : Nat → Int32} {v_sets_one_follow : Nat → Int64} {v_sets_one_takers : Nat → Int64} {v_sets_one_seen : Nat → Int32} {v_sets_one_stack : Nat → Int32} {v_sets_one_states : Nat → Int64} {v_sets_one_ahead : Nat → Int64} {v_sets_one_goes : Nat → Int32} {v_sets_one_live : Nat → Bool} {v_patterns_p1_there : Bool} {v_patterns_p1_count : Int32} {v_patterns_p1_captures : Int32} {v_patterns_p1_ranges : Int32} {v_patterns_p1_sort : Nat → Int32} {v_patterns_p1_end : Nat → Int32} {v_patterns_p1_before : Nat → Int32} {v_patterns_p1_last : Nat → Int32} {v_patterns_p1_parts : Nat → Int32} {v_patterns_p1_value : Nat → Int32} {v_patterns_p1_low : Nat → Int32} {v_patterns_p1_high : Nat → Int32} {v_patterns_p1_size : Nat → Int32} {v_patterns_p1_positions : Nat → Int32} {v_patterns_p1_mayBeEmpty : Nat → Bool} {v_patterns_p1_withinCase : Nat → Bool} {v_patterns_p1_rangeBegin : Nat → Int32} {v_patterns_p1_rangeEnd : Nat → Int32} {v_subjects_p2_count : Int32} {v_subjects_p2_there : Bool} {v_subjects_p2_items : Nat → Int32} {nv_subjects_p2_items : Nat} {h63 : Nat} {h22 : Nat} {h37 : Nat} {Q : Int32 → Int32 → Int32 → (Nat → Int32) → Int32 → Int32 → Int32 → Int32 → Int32 → Int32 → Int32 → Nat → (Nat → Int32) → (Nat → Int32) → (Nat → Int32) → (Nat → Int32) → (Nat → Int32) → (Nat → Int32) → (Nat → Int64) → (Nat → Int64) → (Nat → Int32) → (Nat → Int32) → (Nat → Int64) → (Nat → Int64) → (Nat → Int32) → (Nat → Bool) → Prop} (a0 : 0 ≤ v_sets_alphabet_count.toInt) (a1 : v_sets_alphabet_count.toInt ≤ 256) (a2 : 0 ≤ v_sets_one_count.toInt) (a3 : v_sets_one_count.toInt ≤ 60) (a4 : 0 ≤ v_sets_one_positionCount.toInt) (a5 : v_sets_one_positionCount.toInt ≤ 60) (a6 : 0 ≤ v_sets_one_width.toInt) (a7 : v_sets_one_width.toInt ≤ 256) (a8 : 0 ≤ v_sets_one_program_count.toInt) (a9 : v_sets_one_program_count.toInt ≤ 512) (a10 : 0 ≤ v_patterns_p1_count.toInt) (a11 : v_patterns_p1_count.toInt ≤ 256) (a12 : 0 ≤ v_patterns_p1_ranges.toInt) (a13 : v_patterns_p1_ranges.toInt ≤ 512) (a14 : 0 ≤ v_subjects_p2_count.toInt) (a15 : v_subjects_p2_count.toInt ≤ (nv_subjects_p2_items : Int)) (a16 : (nv_subjects_p2_items : Int) ≤ 1000) (b0 : rp (fun k v => -1 ≤ v ∧ v ≤ 255) v_patterns_p1_last 0 v_patterns_p1_count.toInt) (b1 : rp (fun k v => k < v ∧ v ≤ 256) v_patterns_p1_end 0 v_patterns_p1_count.toInt) (b2 : rp (fun k v => v < k ∧ -1 ≤ v) v_patterns_p1_before 0 v_patterns_p1_count.toInt) (v0 : 0 ≤ p1.toInt → p1.toInt < 6 → v_patterns p1.toNatClampNeg = some h22) (v1 : 0 ≤ p2.toInt → p2.toInt < 4 → v_subjects p2.toNatClampNeg = some h37) (hq : ∀ (r : Int32) (ov_latestFinding : Int32) (ov_sets_alphabet_count : Int32) (ov_sets_alphabet_begins : Nat → Int32) (ov_sets_one_count : Int32) (ov_sets_one_positionCount : Int32) (ov_sets_one_stamp : Int32) (ov_sets_one_stackCount : Int32) (ov_sets_one_width : Int32) (ov_sets_one_program_start : Int32) (ov_sets_one_program_count : Int32) (oh63 : Nat) (ov_sets_one_program_kinds : Nat → Int32) (ov_sets_one_program_subjects : Nat → Int32) (ov_sets_one_program_nexts : Nat → Int32) (ov_sets_one_program_others : Nat → Int32) (ov_sets_one_positionOf : Nat → Int32) (ov_sets_one_pcOf : Nat → Int32) (ov_sets_one_follow : Nat → Int64) (ov_sets_one_takers : Nat → Int64) (ov_sets_one_seen : Nat → Int32) (ov_sets_one_stack : Nat → Int32) (ov_sets_one_states : Nat → Int64) (ov_sets_one_ahead : Nat → Int64) (ov_sets_one_goes : Nat → Int32) (ov_sets_one_live : Nat → Bool), 0 ≤ ov_sets_alphabet_count.toInt → ov_sets_alphabet_count.toInt ≤ 256 → 0 ≤ ov_sets_one_count.toInt → ov_sets_one_count.toInt ≤ 60 → 0 ≤ ov_sets_one_positionCount.toInt → ov_sets_one_positionCount.toInt ≤ 60 → 0 ≤ ov_sets_one_width.toInt → ov_sets_one_width.toInt ≤ 256 → 0 ≤ ov_sets_one_program_count.toInt → ov_sets_one_program_count.toInt ≤ 512 → Q r ov_latestFinding ov_sets_alphabet_count ov_sets_alphabet_begins ov_sets_one_count ov_sets_one_positionCount ov_sets_one_stamp ov_sets_one_stackCount ov_sets_one_width ov_sets_one_program_start ov_sets_one_program_count oh63 ov_sets_one_program_kinds ov_sets_one_program_subjects ov_sets_one_program_nexts ov_sets_one_program_others ov_sets_one_positionOf ov_sets_one_pcOf ov_sets_one_follow ov_sets_one_takers ov_sets_one_seen ov_sets_one_stack ov_sets_one_states ov_sets_one_ahead ov_sets_one_goes ov_sets_one_live) : w_X11_prefix p1 p2 p3 v_latestFinding v_patterns v_subjects v_sets_alphabet_count v_sets_alphabet_begins v_sets_one_count v_sets_one_positionCount v_sets_one_stamp v_sets_one_stackCount v_sets_one_width v_sets_one_program_start v_sets_one_program_count v_sets_one_program_kinds v_sets_one_program_subjects v_sets_one_program_nexts v_sets_one_program_others v_sets_one_positionOf v_sets_one_pcOf v_sets_one_follow v_sets_one_takers v_sets_one_seen v_sets_one_stack v_sets_one_states v_sets_one_ahead v_sets_one_goes v_sets_one_live v_patterns_p1_there v_patterns_p1_count v_patterns_p1_captures v_patterns_p1_ranges v_patterns_p1_sort v_patterns_p1_end v_patterns_p1_before v_patterns_p1_last v_patterns_p1_parts v_patterns_p1_value v_patterns_p1_low v_patterns_p1_high v_patterns_p1_size v_patterns_p1_positions v_patterns_p1_mayBeEmpty v_patterns_p1_withinCase v_patterns_p1_rangeBegin v_patterns_p1_rangeEnd v_subjects_p2_count v_subjects_p2_there v_subjects_p2_items nv_subjects_p2_items h63 h22 h37 Q := by
  have q_t : (bz true).toInt = 1 := rfl
  have q_f : (bz false).toInt = 0 := rfl
  have q_m4 : ((-4) : Int32).toInt = (-4) := rfl
  have q_m2 : ((-2) : Int32).toInt = (-2) := rfl
  unfold w_X11_prefix
  refine ok_X11_patternIn v0 (fun r2 r2_0 f501 f502 => ?_)
  refine ⟨fun c2 => ?_, fun c2 => ?_⟩
  · have f503 : r2.toInt = 0 := i_eq (a := r2.toInt) (b := 0) rfl rfl c2
    exact hq (-2) r2_0 v_sets_alphabet_count v_sets_alphabet_begins v_sets_one_count v_sets_one_positionCount v_sets_one_stamp v_sets_one_stackCount v_sets_one_width v_sets_one_program_start v_sets_one_program_count h63 v_sets_one_program_kinds v_sets_one_program_subjects v_sets_one_program_nexts v_sets_one_program_others v_sets_one_positionOf v_sets_one_pcOf v_sets_one_follow v_sets_one_takers v_sets_one_seen v_sets_one_stack v_sets_one_states v_sets_one_ahead v_sets_one_goes v_sets_one_live (by omega) (by omega) (by omega) (by omega) (by omega) (by omega) (by omega) (by omega) (by omega) (by omega)
  · have f504 : r2.toInt ≠ 0 := i_ne (a := r2.toInt) (b := 0) rfl rfl c2
    refine ok_X11_subjectAt v1 (fun r200017 f505 f506 f507 f508 f509 f510 f511 => ?_)
    refine ⟨fun c200017 => ?_, fun c200017 => ?_⟩
    · have f512 : r200017.toInt = 0 := i_eq (a := r200017.toInt) (b := 0) rfl rfl c200017
      refine ok_X11_refusalOfSubject  (fun r300029 r300029_0 f513 f514 f515 f516 => ?_)
      exact hq r300029 r300029_0 v_sets_alphabet_count v_sets_alphabet_begins v_sets_one_count v_sets_one_positionCount v_sets_one_stamp v_sets_one_stackCount v_sets_one_width v_sets_one_program_start v_sets_one_program_count h63 v_sets_one_program_kinds v_sets_one_program_subjects v_sets_one_program_nexts v_sets_one_program_others v_sets_one_positionOf v_sets_one_pcOf v_sets_one_follow v_sets_one_takers v_sets_one_seen v_sets_one_stack v_sets_one_states v_sets_one_ahead v_sets_one_goes v_sets_one_live (by omega) (by omega) (by omega) (by omega) (by omega) (by omega) (by omega) (by omega) (by omega) (by omega)
    · have f517 : r200017.toInt ≠ 0 := i_ne (a := r200017.toInt) (b := 0) rfl rfl c200017
      have j_400046 : ((p3.toInt + 1 ≤ 0) ∨ (0 ≤ p3.toInt ∧ v_subjects_p2_count.toInt + 1 ≤ p3.toInt)) → w_X11_prefix_400046 Q r2_0 v_sets_alphabet_count v_sets_alphabet_begins v_sets_one_count v_sets_one_positionCount v_sets_one_stamp v_sets_one_stackCount v_sets_one_width v_sets_one_program_start v_sets_one_program_count h63 v_sets_one_program_kinds v_sets_one_program_subjects v_sets_one_program_nexts v_sets_one_program_others v_sets_one_positionOf v_sets_one_pcOf v_sets_one_follow v_sets_one_takers v_sets_one_seen v_sets_one_stack v_sets_one_states v_sets_one_ahead v_sets_one_goes v_sets_one_live := by
        intro f518
        unfold w_X11_prefix_400046
        exact hq (-4) r2_0 v_sets_alphabet_count v_sets_alphabet_begins v_sets_one_count v_sets_one_positionCount v_sets_one_stamp v_sets_one_stackCount v_sets_one_width v_sets_one_program_start v_sets_one_program_count h63 v_sets_one_program_kinds v_sets_one_program_subjects v_sets_one_program_nexts v_sets_one_program_others v_sets_one_positionOf v_sets_one_pcOf v_sets_one_follow v_sets_one_takers v_sets_one_seen v_sets_one_stack v_sets_one_states v_sets_one_ahead v_sets_one_goes v_sets_one_live (by omega) (by omega) (by omega) (by omega) (by omega) (by omega) (by omega) (by omega) (by omega) (by omega)
      refine ⟨fun c400034 => ?_, fun c400034 => ?_⟩
      · have f519 : p3.toInt < 0 := i_lt (a := p3.toInt) (b := 0) rfl rfl c400034
        exact j_400046  (by omega)
      · have f520 : 0 ≤ p3.toInt := i_nlt (a := p3.toInt) (b := 0) rfl rfl c400034
        refine ⟨fun c400043 => ?_, fun c400043 => ?_⟩
        · have f521 : p3.toInt ≤ v_subjects_p2_count.toInt := i_le (a := p3.toInt) (b := v_subjects_p2_count.toInt) rfl rfl c400043
          refine ok_X11_makeTables (by omega) (by omega) (by omega) (by omega) (by omega) (by omega) (by omega) (by omega) (by omega) (by omega) (by omega) (by omega) (by omega) (by omega) (rp_mono b0 (by omega) (by omega)) (rp_mono b1 (by omega) (by omega)) (rp_mono b2 (by omega) (by omega)) (fun r400053 r400053_0 r400053_1 r400053_2 r400053_3 r400053_4 r400053_5 r400053_6 r400053_7 r400053_8 r400053_9 r400053_10 r400053_11 r400053_12 r400053_13 r400053_14 r400053_15 r400053_16 r400053_17 r400053_18 r400053_19 r400053_20 r400053_21 r400053_22 f522 f523 f524 f525 f526 f527 f528 f529 f530 f531 f532 f533 => ?_)
          have j_400078 : ∀ (s0_400078 : Int32) (v_sets_one_live_400078 : Nat → Bool), ((r400053.toInt = 0) ∨ (s0_400078.toInt = r400053.toInt)) → w_X11_prefix_400078 Q s0_400078 r2_0 r400053_0 r400053_1 r400053_2 r400053_3 r400053_4 r400053_5 r400053_6 r400053_7 r400053_8 r400053_9 r400053_10 r400053_11 r400053_12 r400053_13 r400053_14 r400053_15 r400053_16 r400053_17 r400053_18 r400053_19 r400053_20 r400053_21 r400053_22 v_sets_one_live_400078 := by
            intro s0_400078 v_sets_one_live_400078 f534
            unfold w_X11_prefix_400078
            exact hq s0_400078 r2_0 r400053_0 r400053_1 r400053_2 r400053_3 r400053_4 r400053_5 r400053_6 r400053_7 r400053_8 r400053_9 r400053_10 r400053_11 r400053_12 r400053_13 r400053_14 r400053_15 r400053_16 r400053_17 r400053_18 r400053_19 r400053_20 r400053_21 r400053_22 v_sets_one_live_400078 (by omega) (by omega) (by omega) (by omega) (by omega) (by omega) (by omega) (by omega) (by omega) (by omega)
          refine ⟨fun c400060 => ?_, fun c400060 => ?_⟩
          · have f535 : r400053.toInt = 0 := i_eq (a := r400053.toInt) (b := 0) rfl rfl c400060
            refine ok_X8_longestBeginning (by omega) (by omega) (by omega) (by omega) (by omega) (by omega) (by omega) (by omega) (by omega) (fun r400075 r400075_0 => ?_)
            exact j_400078 r400075 r400075_0 (by omega)
          · have f536 : r400053.toInt ≠ 0 := i_ne (a := r400053.toInt) (b := 0) rfl rfl c400060
            exact j_400078 r400053 v_sets_one_live (by omega)
        · have f537 : v_subjects_p2_count.toInt < p3.toInt := i_nle (a := p3.toInt) (b := v_subjects_p2_count.toInt) rfl rfl c400043
          exact j_400046  (by omega)
set_option maxHeartbeats 4000000 in
theorem ok_X3_run_v1 {p3 : Int32} {p4 : Int32} {a5_count : Int32} {a5_over : Bool} {a5_items : Nat → Int32} {na5_items : Nat} {v_nowCount : Int32} {v_stamp : Int32} {v_stackCount : Int32} {v_program_start : Int32} {v_program_kinds : Nat → Int32} {v_program_subjects : Nat → Int32} {v_program_nexts : Nat → Int32} {v_program_others : Nat → Int32} {v_edges : Nat → Bool} {v_nowAt : Nat → Int32} {v_nowCells : Nat → Int32} {v_nextAt : Nat → Int32} {v_nextCells : Nat → Int32} {v_seen : Nat → Int32} {v_waits : Nat → Int32} {v_cells : Nat → Int32} {v_stack : Nat → Int32} {v_kept : Nat → Int32} {a1_there : Bool} {a1_count : Int32} {a1_captures : Int32} {a1_ranges : Int32} {a1_sort : Nat → Int32} {a1_end : Nat → Int32} {a1_before : Nat → Int32} {a1_last : Nat → Int32} {a1_value : Nat → Int32} {a1_low : Nat → Int32} {a1_high : Nat → Int32} {a1_withinCase : Nat → Bool} {a1_rangeBegin : Nat → Int32} {a1_rangeEnd : Nat → Int32} {a2_count : Int32} {a2_items : Nat → Int32} {na2_items : Nat} {h11 : Nat} {h12 : Nat} {h13 : Nat} {h14 : Nat} {Q : Int32 → Int32 → Bool → (Nat → Int32) → Int32 → Int32 → Int32 → Int32 → Int32 → Int32 → Int32 → (Nat → Int32) → (Nat → Int32) → (Nat → Int32) → (Nat → Int32) → (Nat → Bool) → Nat → (Nat → Int32) → Nat → (Nat → Int32) → Nat → (Nat → Int32) → Nat → (Nat → Int32) → (Nat → Int32) → (Nat → Int32) → (Nat → Int32) → (Nat → Int32) → (Nat → Int32) → Prop} (a0 : 0 ≤ a5_count.toInt) (a1 : a5_count.toInt ≤ (na5_items : Int)) (a2 : (na5_items : Int) ≤ 1000) (a3 : 0 ≤ a1_count.toInt) (a4 : a1_count.toInt ≤ 256) (a5 : 0 ≤ a1_ranges.toInt) (a6 : a1_ranges.toInt ≤ 512) (a7 : 0 ≤ a2_count.toInt) (a8 : a2_count.toInt ≤ (na2_items : Int)) (a9 : (na2_items : Int) ≤ 1000) (a10 : 0 ≤ p4.toInt) (a11 : p4.toInt ≤ 1) (b0 : rp (fun k v => -1 ≤ v ∧ v ≤ 255) a1_last 0 a1_count.toInt) (b1 : rp (fun k v => k < v ∧ v ≤ 256) a1_end 0 a1_count.toInt) (b2 : rp (fun k v => v < k ∧ -1 ≤ v) a1_before 0 a1_count.toInt) (hq : ∀ (r : Int32) (oa5_count : Int32) (oa5_over : Bool) (oa5_items : Nat → Int32) (ov_width : Int32) (ov_nowCount : Int32) (ov_nextCount : Int32) (ov_stamp : Int32) (ov_stackCount : Int32) (ov_program_start : Int32) (ov_program_count : Int32) (ov_program_kinds : Nat → Int32) (ov_program_subjects : Nat → Int32) (ov_program_nexts : Nat → Int32) (ov_program_others : Nat → Int32) (ov_edges : Nat → Bool) (oh11 : Nat) (ov_nowAt : Nat → Int32) (oh12 : Nat) (ov_nowCells : Nat → Int32) (oh13 : Nat) (ov_nextAt : Nat → Int32) (oh14 : Nat) (ov_nextCells : Nat → Int32) (ov_seen : Nat → Int32) (ov_waits : Nat → Int32) (ov_cells : Nat → Int32) (ov_stack : Nat → Int32) (ov_kept : Nat → Int32), 0 ≤ ov_program_count.toInt → ov_program_count.toInt ≤ 512 → 0 ≤ oa5_count.toInt → oa5_count.toInt ≤ (na5_items : Int) → 0 ≤ r.toInt → r.toInt ≤ 1 → 0 ≤ ov_nextCount.toInt → ov_width.toInt ≤ 20 → Q r oa5_count oa5_over oa5_items ov_width ov_nowCount ov_nextCount ov_stamp ov_stackCount ov_program_start ov_program_count ov_program_kinds ov_program_subjects ov_program_nexts ov_program_others ov_edges oh11 ov_nowAt oh12 ov_nowCells oh13 ov_nextAt oh14 ov_nextCells ov_seen ov_waits ov_cells ov_stack ov_kept) : w_X3_run_v1 p3 p4 a5_count a5_over a5_items na5_items v_nowCount v_stamp v_stackCount v_program_start v_program_kinds v_program_subjects v_program_nexts v_program_others v_edges v_nowAt v_nowCells v_nextAt v_nextCells v_seen v_waits v_cells v_stack v_kept a1_there a1_count a1_captures a1_ranges a1_sort a1_end a1_before a1_last a1_value a1_low a1_high a1_withinCase a1_rangeBegin a1_rangeEnd a2_count a2_items na2_items h11 h12 h13 h14 Q := by
  have q_t : (bz true).toInt = 1 := rfl
  have q_f : (bz false).toInt = 0 := rfl
  have q_m1 : ((-1) : Int32).toInt = (-1) := rfl
  have q_0 : (0 : Int32).toInt = 0 := rfl
  unfold w_X3_run_v1
  refine ok_X5_write_v1 (by omega) (by omega) (by omega) (by omega) (rp_mono b0 (by omega) (by omega)) (rp_mono b1 (by omega) (by omega)) (rp_mono b2 (by omega) (by omega)) (fun r5_0 r5_1 r5_2 r5_3 r5_4 r5_5 f1 f2 => ?_)
  intro x200021 ex200021
  intro x200023 ex200023
  intro x200024 ex200024
  have f3 : ((x200024.toInt = 20 ∧ 20 ≤ x200023.toInt) ∨ (x200024.toInt = x200023.toInt ∧ x200023.toInt ≤ 20)) := by have h9 := i_min (a := x200023.toInt) (b := 20) ex200024 rfl rfl; omega
  intro x200041 ex200041
  have j_200051 : ∀ n_200051 : Nat, ∀ (l6_200051 : Int32) (l7_200051 : Int32) (a5_count_200051 : Int32) (a5_over_200051 : Bool) (a5_items_200051 : Nat → Int32) (v_nowCount_200051 : Int32) (v_nextCount_200051 : Int32) (v_stamp_200051 : Int32) (v_stackCount_200051 : Int32) (v_edges_200051 : Nat → Bool) (v_nowAt_200051 : Nat → Int32) (v_nowCells_200051 : Nat → Int32) (v_nextAt_200051 : Nat → Int32) (v_nextCells_200051 : Nat → Int32) (v_seen_200051 : Nat → Int32) (v_waits_200051 : Nat → Int32) (v_cells_200051 : Nat → Int32) (v_stack_200051 : Nat → Int32) (v_kept_200051 : Nat → Int32), 0 ≤ l6_200051.toInt → l6_200051.toInt ≤ 1 → p3.toInt ≤ l7_200051.toInt → 0 ≤ v_nextCount_200051.toInt → 0 ≤ a5_count_200051.toInt → a5_count_200051.toInt ≤ (na5_items : Int) → ((-1) * l7_200051.toInt + 2147483648).toNat < n_200051 → w_X3_run_v1_200051 p3 p4 na5_items a1_count a1_ranges a1_sort a1_value a1_low a1_high a1_withinCase a1_rangeBegin a1_rangeEnd a2_count a2_items na2_items h11 h12 h13 h14 Q x200024 r5_0 r5_1 r5_2 r5_3 r5_4 r5_5 n_200051 l6_200051 l7_200051 a5_count_200051 a5_over_200051 a5_items_200051 v_nowCount_200051 v_nextCount_200051 v_stamp_200051 v_stackCount_200051 v_edges_200051 v_nowAt_200051 v_nowCells_200051 v_nextAt_200051 v_nextCells_200051 v_seen_200051 v_waits_200051 v_cells_200051 v_stack_200051 v_kept_200051 := by
    intro n_200051
    induction n_200051 with
    | zero =>
      intro l6_200051 l7_200051 a5_count_200051 a5_over_200051 a5_items_200051 v_nowCount_200051 v_nextCount_200051 v_stamp_200051 v_stackCount_200051 v_edges_200051 v_nowAt_200051 v_nowCells_200051 v_nextAt_200051 v_nextCells_200051 v_seen_200051 v_waits_200051 v_cells_200051 v_stack_200051 v_kept_200051 f4 f5 f6 f7 f8 f9 hm_200051
      exfalso; omega
    | succ n_200051 ih_200051 =>
      intro l6_200051 l7_200051 a5_count_200051 a5_over_200051 a5_items_200051 v_nowCount_200051 v_nextCount_200051 v_stamp_200051 v_stackCount_200051 v_edges_200051 v_nowAt_200051 v_nowCells_200051 v_nextAt_200051 v_nextCells_200051 v_seen_200051 v_waits_200051 v_cells_200051 v_stack_200051 v_kept_200051 f4 f5 f6 f7 f8 f9 hm_200051
      unfold w_X3_run_v1_200051
      unfold w_X3_run_v1_200051B
      have j_200168 : ∀ (l6_200168 : Int32) (a5_count_200168 : Int32) (a5_over_200168 : Bool) (a5_items_200168 : Nat → Int32) (v_nowCount_200168 : Int32) (v_nextCount_200168 : Int32) (v_stamp_200168 : Int32) (v_stackCount_200168 : Int32) (v_edges_200168 : Nat → Bool) (v_nowAt_200168 : Nat → Int32) (v_nowCells_200168 : Nat → Int32) (v_nextAt_200168 : Nat → Int32) (v_nextCells_200168 : Nat → Int32) (v_seen_200168 : Nat → Int32) (v_waits_200168 : Nat → Int32) (v_cells_200168 : Nat → Int32) (v_stack_200168 : Nat → Int32) (v_kept_200168 : Nat → Int32), 0 ≤ a5_count_200168.toInt → a5_count_200168.toInt ≤ (na5_items : Int) → 0 ≤ l6_200168.toInt → l6_200168.toInt ≤ 1 → 0 ≤ v_nextCount_200168.toInt → w_X3_run_v1_200168 h11 h12 h13 h14 Q l6_200168 a5_count_200168 a5_over_200168 a5_items_200168 x200024 v_nowCount_200168 v_nextCount_200168 v_stamp_200168 v_stackCount_200168 r5_0 r5_1 r5_2 r5_3 r5_4 r5_5 v_edges_200168 v_nowAt_200168 v_nowCells_200168 v_nextAt_200168 v_nextCells_200168 v_seen_200168 v_waits_200168 v_cells_200168 v_stack_200168 v_kept_200168 := by
        intro l6_200168 a5_count_200168 a5_over_200168 a5_items_200168 v_nowCount_200168 v_nextCount_200168 v_stamp_200168 v_stackCount_200168 v_edges_200168 v_nowAt_200168 v_nowCells_200168 v_nextAt_200168 v_nextCells_200168 v_seen_200168 v_waits_200168 v_cells_200168 v_stack_200168 v_kept_200168 f10 f11 f12 f13 f14
        unfold w_X3_run_v1_200168
        refine ⟨i_01 (by omega) (by omega), ?_⟩
        exact hq l6_200168 a5_count_200168 a5_over_200168 a5_items_200168 x200024 v_nowCount_200168 v_nextCount_200168 v_stamp_200168 v_stackCount_200168 r5_0 r5_1 r5_2 r5_3 r5_4 r5_5 v_edges_200168 h11 v_nowAt_200168 h12 v_nowCells_200168 h13 v_nextAt_200168 h14 v_nextCells_200168 v_seen_200168 v_waits_200168 v_cells_200168 v_stack_200168 v_kept_200168 (by omega) (by omega) (by omega) (by omega) (by omega) (by omega) (by omega) (by omega)
      refine ⟨fun c200060 => ?_, fun c200060 => ?_⟩
      · have f15 : a2_count.toInt < l7_200051.toInt := i_lt (a := a2_count.toInt) (b := l7_200051.toInt) rfl rfl c200060
        exact j_200168 l6_200051 a5_count_200051 a5_over_200051 a5_items_200051 v_nowCount_200051 v_nextCount_200051 v_stamp_200051 v_stackCount_200051 v_edges_200051 v_nowAt_200051 v_nowCells_200051 v_nextAt_200051 v_nextCells_200051 v_seen_200051 v_waits_200051 v_cells_200051 v_stack_200051 v_kept_200051 (by omega) (by omega) (by omega) (by omega) (by omega)
      · have f16 : l7_200051.toInt ≤ a2_count.toInt := i_nlt (a := a2_count.toInt) (b := l7_200051.toInt) rfl rfl c200060
        have j_200115 : ∀ (v_nextCount_200115 : Int32) (v_stackCount_200115 : Int32) (v_edges_200115 : Nat → Bool) (v_nextAt_200115 : Nat → Int32) (v_nextCells_200115 : Nat → Int32) (v_seen_200115 : Nat → Int32) (v_waits_200115 : Nat → Int32) (v_cells_200115 : Nat → Int32) (v_stack_200115 : Nat → Int32) (v_kept_200115 : Nat → Int32), v_nextCount_200051.toInt ≤ v_nextCount_200115.toInt → ((v_nextCount_200115.toInt = v_nextCount_200051.toInt) ∨ (v_nextCount_200115.toInt = v_nextCount_200051.toInt ∧ l6_200051.toInt = 0) ∨ (l6_200051.toInt = 0 ∧ v_nextCount_200051.toInt ≤ v_nextCount_200115.toInt ∧ 0 ≤ v_stackCount_200115.toInt + 1 ∧ 0 ≤ v_stackCount_200115.toInt)) → w_X3_run_v1_200115 p3 p4 na5_items a1_count a1_ranges a1_sort a1_value a1_low a1_high a1_withinCase a1_rangeBegin a1_rangeEnd a2_count a2_items na2_items h11 h12 h13 h14 x200024 r5_0 r5_1 r5_2 r5_3 r5_4 r5_5 Q (w_X3_run_v1_200051 p3 p4 na5_items a1_count a1_ranges a1_sort a1_value a1_low a1_high a1_withinCase a1_rangeBegin a1_rangeEnd a2_count a2_items na2_items h11 h12 h13 h14 Q x200024 r5_0 r5_1 r5_2 r5_3 r5_4 r5_5 n_200051) l6_200051 l7_200051 a5_count_200051 a5_over_200051 a5_items_200051 v_nowCount_200051 v_nextCount_200115 v_stamp_200051 v_stackCount_200115 v_edges_200115 v_nowAt_200051 v_nowCells_200051 v_nextAt_200115 v_nextCells_200115 v_seen_200115 v_waits_200115 v_cells_200115 v_stack_200115 v_kept_200115 := by
          intro v_nextCount_200115 v_stackCount_200115 v_edges_200115 v_nextAt_200115 v_nextCells_200115 v_seen_200115 v_waits_200115 v_cells_200115 v_stack_200115 v_kept_200115 f17 f18
          unfold w_X3_run_v1_200115
          refine ok_X3_exchangeLists  (fun r200116_0 r200116_1 r200116_2 f19 f20 => ?_)
          have j_300168 : ∀ (l6_300168 : Int32) (a5_count_300168 : Int32) (a5_over_300168 : Bool) (a5_items_300168 : Nat → Int32) (v_nextCount_300168 : Int32) (v_stackCount_300168 : Int32) (v_edges_300168 : Nat → Bool) (v_nowAt_300168 : Nat → Int32) (v_nowCells_300168 : Nat → Int32) (v_seen_300168 : Nat → Int32) (v_waits_300168 : Nat → Int32) (v_cells_300168 : Nat → Int32) (v_stack_300168 : Nat → Int32) (v_kept_300168 : Nat → Int32), 0 ≤ a5_count_300168.toInt → a5_count_300168.toInt ≤ (na5_items : Int) → 0 ≤ l6_300168.toInt → l6_300168.toInt ≤ 1 → 0 ≤ v_nextCount_300168.toInt → w_X3_run_v1_300168 h11 h12 h13 h14 Q l6_300168 a5_count_300168 a5_over_300168 a5_items_300168 x200024 r200116_0 v_nextCount_300168 r200116_2 v_stackCount_300168 r5_0 r5_1 r5_2 r5_3 r5_4 r5_5 v_edges_300168 v_nowAt_300168 v_nowCells_300168 v_nextAt_200115 v_nextCells_200115 v_seen_300168 v_waits_300168 v_cells_300168 v_stack_300168 v_kept_300168 := by
            intro l6_300168 a5_count_300168 a5_over_300168 a5_items_300168 v_nextCount_300168 v_stackCount_300168 v_edges_300168 v_nowAt_300168 v_nowCells_300168 v_seen_300168 v_waits_300168 v_cells_300168 v_stack_300168 v_kept_300168 f21 f22 f23 f24 f25
            unfold w_X3_run_v1_300168
            refine ⟨i_01 (by omega) (by omega), ?_⟩
            exact hq l6_300168 a5_count_300168 a5_over_300168 a5_items_300168 x200024 r200116_0 v_nextCount_300168 r200116_2 v_stackCount_300168 r5_0 r5_1 r5_2 r5_3 r5_4 r5_5 v_edges_300168 h13 v_nextAt_200115 h14 v_nextCells_200115 h11 v_nowAt_300168 h12 v_nowCells_300168 v_seen_300168 v_waits_300168 v_cells_300168 v_stack_300168 v_kept_300168 (by omega) (by omega) (by omega) (by omega) (by omega) (by omega) (by omega) (by omega)
          have j_300139 : w_X3_run_v1_300139 p3 p4 na5_items a1_count a1_ranges a1_sort a1_value a1_low a1_high a1_withinCase a1_rangeBegin a1_rangeEnd a2_count a2_items na2_items h11 h12 h13 h14 x200024 r5_0 r5_1 r5_2 r5_3 r5_4 r5_5 Q (w_X3_run_v1_200051 p3 p4 na5_items a1_count a1_ranges a1_sort a1_value a1_low a1_high a1_withinCase a1_rangeBegin a1_rangeEnd a2_count a2_items na2_items h11 h12 h13 h14 Q x200024 r5_0 r5_1 r5_2 r5_3 r5_4 r5_5 n_200051) l6_200051 l7_200051 a5_count_200051 a5_over_200051 a5_items_200051 r200116_0 r200116_1 r200116_2 v_stackCount_200115 v_edges_200115 v_nowAt_200051 v_nowCells_200051 v_nextAt_200115 v_nextCells_200115 v_seen_200115 v_waits_200115 v_cells_200115 v_stack_200115 v_kept_200115 := by
            unfold w_X3_run_v1_300139
            intro x300143 ex300143
            have f26 : x300143.toInt = l7_200051.toInt + 1 := i_add (a := l7_200051.toInt) (b := 1) ex300143 rfl rfl (by have h8_1 := i_rng a2_count; have h8_2 := i_rng l7_200051; have h8_3 := i_rng p3; omega) (by omega)
            refine ok_X3_markEdges (by omega) (by omega) (by omega) (fun r300144_0 => ?_)
            refine ok_X3_goAlong (by omega) (by omega) (by omega) (by omega) (by omega) (by omega) (by omega) (by omega) (by omega) (by omega) (by omega) (by omega) (by omega) (by omega) (fun r300156 r300156_0 r300156_1 r300156_2 r300156_3 r300156_4 r300156_5 r300156_6 r300156_7 r300156_8 r300156_9 r300156_10 r300156_11 f27 f28 => ?_)
            intro x300159 ex300159
            have f29 : (0 ≤ x300159.toInt ∧ x300159.toInt ≤ 1) := i_or01 (a := l6_200051.toInt) (b := r300156.toInt) ex300159 rfl rfl (by omega) (by omega) (by omega) (by omega)
            intro x300162 ex300162
            have f30 : x300162.toInt = l7_200051.toInt + 1 := i_add (a := l7_200051.toInt) (b := 1) ex300162 rfl rfl (by have h8_1 := i_rng a2_count; have h8_2 := i_rng l7_200051; have h8_3 := i_rng p3; have h8_4 := i_rng x300143; omega) (by omega)
            refine ⟨fun c300060 => ?_, fun c300060 => ?_⟩
            · have f31 : a2_count.toInt < x300162.toInt := i_lt (a := a2_count.toInt) (b := x300162.toInt) rfl rfl c300060
              exact j_300168 x300159 r300156_0 r300156_1 r300156_2 r300156_3 r300156_4 r300144_0 r300156_5 r300156_6 r300156_7 r300156_8 r300156_9 r300156_10 r300156_11 (by omega) (by omega) (by omega) (by omega) (by omega)
            · have f32 : x300162.toInt ≤ a2_count.toInt := i_nlt (a := a2_count.toInt) (b := x300162.toInt) rfl rfl c300060
              have j_300115 : ∀ (v_nextCount_300115 : Int32) (v_stackCount_300115 : Int32) (v_edges_300115 : Nat → Bool) (v_nowAt_300115 : Nat → Int32) (v_nowCells_300115 : Nat → Int32) (v_seen_300115 : Nat → Int32) (v_waits_300115 : Nat → Int32) (v_cells_300115 : Nat → Int32) (v_stack_300115 : Nat → Int32) (v_kept_300115 : Nat → Int32), ((v_nextCount_300115.toInt = r300156_3.toInt) ∨ (v_nextCount_300115.toInt = r300156_3.toInt ∧ x300159.toInt = 0) ∨ (x300159.toInt = 0 ∧ p4.toInt = 0 ∧ r300156_3.toInt ≤ v_nextCount_300115.toInt ∧ 0 ≤ v_stackCount_300115.toInt + 1 ∧ 0 ≤ v_stackCount_300115.toInt)) → w_X3_run_v1_300115 p4 na5_items a1_count a1_ranges a1_sort a1_value a1_low a1_high a1_withinCase a1_rangeBegin a1_rangeEnd a2_count a2_items na2_items h11 h12 h13 h14 x200024 r5_0 r5_1 r5_2 r5_3 r5_4 r5_5 Q (w_X3_run_v1_200051 p3 p4 na5_items a1_count a1_ranges a1_sort a1_value a1_low a1_high a1_withinCase a1_rangeBegin a1_rangeEnd a2_count a2_items na2_items h11 h12 h13 h14 Q x200024 r5_0 r5_1 r5_2 r5_3 r5_4 r5_5 n_200051) x300159 x300162 r300156_0 r300156_1 r300156_2 r200116_0 v_nextCount_300115 r200116_2 v_stackCount_300115 v_edges_300115 v_nowAt_300115 v_nowCells_300115 v_nextAt_200115 v_nextCells_200115 v_seen_300115 v_waits_300115 v_cells_300115 v_stack_300115 v_kept_300115 := by
                intro v_nextCount_300115 v_stackCount_300115 v_edges_300115 v_nowAt_300115 v_nowCells_300115 v_seen_300115 v_waits_300115 v_cells_300115 v_stack_300115 v_kept_300115 f33
                unfold w_X3_run_v1_300115
                refine ok_X3_exchangeLists  (fun r300116_0 r300116_1 r300116_2 f34 f35 => ?_)
                have j_200139 : w_X3_run_v1_200139 p4 na5_items a1_count a1_ranges a1_sort a1_value a1_low a1_high a1_withinCase a1_rangeBegin a1_rangeEnd a2_count a2_items na2_items x200024 r5_1 r5_2 r5_3 r5_4 r5_5 Q (w_X3_run_v1_200051 p3 p4 na5_items a1_count a1_ranges a1_sort a1_value a1_low a1_high a1_withinCase a1_rangeBegin a1_rangeEnd a2_count a2_items na2_items h11 h12 h13 h14 Q x200024 r5_0 r5_1 r5_2 r5_3 r5_4 r5_5 n_200051) x300159 x300162 r300156_0 r300156_1 r300156_2 r300116_0 r300116_1 r300116_2 v_stackCount_300115 v_edges_300115 v_nowAt_300115 v_nowCells_300115 v_nextAt_200115 v_nextCells_200115 v_seen_300115 v_waits_300115 v_cells_300115 v_stack_300115 v_kept_300115 := by
                  unfold w_X3_run_v1_200139
                  intro x200143 ex200143
                  have f36 : x200143.toInt = x300162.toInt + 1 := i_add (a := x300162.toInt) (b := 1) ex200143 rfl rfl (by have h8_1 := i_rng a2_count; have h8_2 := i_rng l7_200051; have h8_3 := i_rng p3; have h8_4 := i_rng x300143; have h8_5 := i_rng x300162; omega) (by omega)
                  refine ok_X3_markEdges (by omega) (by omega) (by omega) (fun r200144_0 => ?_)
                  refine ok_X3_goAlong (by omega) (by omega) (by omega) (by omega) (by omega) (by omega) (by omega) (by omega) (by omega) (by omega) (by omega) (by omega) (by omega) (by omega) (fun r200156 r200156_0 r200156_1 r200156_2 r200156_3 r200156_4 r200156_5 r200156_6 r200156_7 r200156_8 r200156_9 r200156_10 r200156_11 f37 f38 => ?_)
                  intro x200159 ex200159
                  have f39 : (0 ≤ x200159.toInt ∧ x200159.toInt ≤ 1) := i_or01 (a := x300159.toInt) (b := r200156.toInt) ex200159 rfl rfl (by omega) (by omega) (by omega) (by omega)
                  intro x200162 ex200162
                  have f40 : x200162.toInt = x300162.toInt + 1 := i_add (a := x300162.toInt) (b := 1) ex200162 rfl rfl (by have h8_1 := i_rng a2_count; have h8_2 := i_rng l7_200051; have h8_3 := i_rng p3; have h8_4 := i_rng x200143; have h8_5 := i_rng x300143; have h8_6 := i_rng x300162; omega) (by omega)
                  exact ih_200051 x200159 x200162 r200156_0 r200156_1 r200156_2 r300116_0 r200156_3 r300116_2 r200156_4 r200144_0 v_nowAt_300115 v_nowCells_300115 r200156_5 r200156_6 r200156_7 r200156_8 r200156_9 r200156_10 r200156_11  (by omega) (by omega) (by omega) (by omega) (by omega) (by omega) (by have h8_0 := i_rng l7_200051; have h8_1 := i_rng x200162; omega)
                refine ⟨fun c200123 => ?_, fun c200123 => ?_⟩
                · have f41 : r300116_0.toInt ≠ 0 := i_ne (a := r300116_0.toInt) (b := 0) rfl rfl c200123
                  exact j_200139  
                · have f42 : r300116_0.toInt = 0 := i_eq (a := r300116_0.toInt) (b := 0) rfl rfl c200123
                  refine ⟨fun c200128 => ?_, fun c200128 => ?_⟩
                  · have f43 : x300159.toInt ≠ 0 := i_ne (a := x300159.toInt) (b := 0) rfl rfl c200128
                    exact j_200168 x300159 r300156_0 r300156_1 r300156_2 r300116_0 r300116_1 r300116_2 v_stackCount_300115 v_edges_300115 v_nowAt_300115 v_nowCells_300115 v_nextAt_200115 v_nextCells_200115 v_seen_300115 v_waits_300115 v_cells_300115 v_stack_300115 v_kept_300115 (by omega) (by omega) (by omega) (by omega) (by omega)
                  · have f44 : x300159.toInt = 0 := i_eq (a := x300159.toInt) (b := 0) rfl rfl c200128
                    refine ⟨fun c200133 => ?_, fun c200133 => ?_⟩
                    · have f45 : p4.toInt = 0 := i_eq (a := p4.toInt) (b := 0) rfl rfl c200133
                      exact j_200139  
                    · have f46 : p4.toInt ≠ 0 := i_ne (a := p4.toInt) (b := 0) rfl rfl c200133
                      exact j_200168 x300159 r300156_0 r300156_1 r300156_2 r300116_0 r300116_1 r300116_2 v_stackCount_300115 v_edges_300115 v_nowAt_300115 v_nowCells_300115 v_nextAt_200115 v_nextCells_200115 v_seen_300115 v_waits_300115 v_cells_300115 v_stack_300115 v_kept_300115 (by omega) (by omega) (by omega) (by omega) (by omega)
              refine ⟨fun c300065 => ?_, fun c300065 => ?_⟩
              · have f47 : x300159.toInt ≠ 0 := i_ne (a := x300159.toInt) (b := 0) rfl rfl c300065
                exact j_300115 r300156_3 r300156_4 r300144_0 r300156_5 r300156_6 r300156_7 r300156_8 r300156_9 r300156_10 r300156_11 (by omega)
              · have f48 : x300159.toInt = 0 := i_eq (a := x300159.toInt) (b := 0) rfl rfl c300065
                have j_300079 : x300162.toInt ≠ p3.toInt → p4.toInt = 0 → w_X3_run_v1_300079 p4 na5_items a1_count a1_ranges a1_sort a1_value a1_low a1_high a1_withinCase a1_rangeBegin a1_rangeEnd a2_count a2_items na2_items h11 h12 h13 h14 x200024 r5_0 r5_1 r5_2 r5_3 r5_4 r5_5 Q (w_X3_run_v1_200051 p3 p4 na5_items a1_count a1_ranges a1_sort a1_value a1_low a1_high a1_withinCase a1_rangeBegin a1_rangeEnd a2_count a2_items na2_items h11 h12 h13 h14 Q x200024 r5_0 r5_1 r5_2 r5_3 r5_4 r5_5 n_200051) x300159 x300162 r300156_0 r300156_1 r300156_2 r200116_0 r300156_3 r200116_2 r300156_4 r300144_0 r300156_5 r300156_6 v_nextAt_200115 v_nextCells_200115 r300156_7 r300156_8 r300156_9 r300156_10 r300156_11 := by
                  intro f49 f50
                  unfold w_X3_run_v1_300079
                  refine ok_J7_fill_53178  (fun r300084_0 => ?_)
                  intro g300094 eg300094
                  refine ok_X3_markEdges (by omega) (by omega) (by omega) (fun r300098_0 => ?_)
                  refine ok_X3_spread (by omega) (by omega) (fun r300112_0 r300112_1 r300112_2 r300112_3 r300112_4 r300112_5 r300112_6 r300112_7 r300112_8 f51 f52 f53 => ?_)
                  exact j_300115 r300112_0 r300112_1 r300098_0 r300112_2 r300112_3 r300112_4 r300112_5 r300112_6 r300112_7 r300112_8 (by omega)
                refine ⟨fun c300071 => ?_, fun c300071 => ?_⟩
                · have f54 : x300162.toInt = p3.toInt := i_eq (a := x300162.toInt) (b := p3.toInt) rfl rfl c300071
                  exfalso; omega
                · have f55 : x300162.toInt ≠ p3.toInt := i_ne (a := x300162.toInt) (b := p3.toInt) rfl rfl c300071
                  refine ⟨fun c300076 => ?_, fun c300076 => ?_⟩
                  · have f56 : p4.toInt ≠ 0 := i_ne (a := p4.toInt) (b := 0) rfl rfl c300076
                    exact j_300115 r300156_3 r300156_4 r300144_0 r300156_5 r300156_6 r300156_7 r300156_8 r300156_9 r300156_10 r300156_11 (by omega)
                  · have f57 : p4.toInt = 0 := i_eq (a := p4.toInt) (b := 0) rfl rfl c300076
                    exact j_300079  (by omega) (by omega)
          refine ⟨fun c300123 => ?_, fun c300123 => ?_⟩
          · have f58 : r200116_0.toInt ≠ 0 := i_ne (a := r200116_0.toInt) (b := 0) rfl rfl c300123
            exact j_300139  
          · have f59 : r200116_0.toInt = 0 := i_eq (a := r200116_0.toInt) (b := 0) rfl rfl c300123
            refine ⟨fun c300128 => ?_, fun c300128 => ?_⟩
            · have f60 : l6_200051.toInt ≠ 0 := i_ne (a := l6_200051.toInt) (b := 0) rfl rfl c300128
              exact j_300168 l6_200051 a5_count_200051 a5_over_200051 a5_items_200051 r200116_1 v_stackCount_200115 v_edges_200115 v_nowAt_200051 v_nowCells_200051 v_seen_200115 v_waits_200115 v_cells_200115 v_stack_200115 v_kept_200115 (by omega) (by omega) (by omega) (by omega) (by omega)
            · have f61 : l6_200051.toInt = 0 := i_eq (a := l6_200051.toInt) (b := 0) rfl rfl c300128
              refine ⟨fun c300133 => ?_, fun c300133 => ?_⟩
              · have f62 : p4.toInt = 0 := i_eq (a := p4.toInt) (b := 0) rfl rfl c300133
                exact j_300139  
              · have f63 : p4.toInt ≠ 0 := i_ne (a := p4.toInt) (b := 0) rfl rfl c300133
                exact j_300168 l6_200051 a5_count_200051 a5_over_200051 a5_items_200051 r200116_1 v_stackCount_200115 v_edges_200115 v_nowAt_200051 v_nowCells_200051 v_seen_200115 v_waits_200115 v_cells_200115 v_stack_200115 v_kept_200115 (by omega) (by omega) (by omega) (by omega) (by omega)
        refine ⟨fun c200065 => ?_, fun c200065 => ?_⟩
        · have f64 : l6_200051.toInt ≠ 0 := i_ne (a := l6_200051.toInt) (b := 0) rfl rfl c200065
          exact j_200115 v_nextCount_200051 v_stackCount_200051 v_edges_200051 v_nextAt_200051 v_nextCells_200051 v_seen_200051 v_waits_200051 v_cells_200051 v_stack_200051 v_kept_200051 (by omega) (by omega)
        · have f65 : l6_200051.toInt = 0 := i_eq (a := l6_200051.toInt) (b := 0) rfl rfl c200065
          have j_200079 : ((l7_200051.toInt = p3.toInt) ∨ (p4.toInt = 0)) → w_X3_run_v1_200079 p3 p4 na5_items a1_count a1_ranges a1_sort a1_value a1_low a1_high a1_withinCase a1_rangeBegin a1_rangeEnd a2_count a2_items na2_items h11 h12 h13 h14 x200024 r5_0 r5_1 r5_2 r5_3 r5_4 r5_5 Q (w_X3_run_v1_200051 p3 p4 na5_items a1_count a1_ranges a1_sort a1_value a1_low a1_high a1_withinCase a1_rangeBegin a1_rangeEnd a2_count a2_items na2_items h11 h12 h13 h14 Q x200024 r5_0 r5_1 r5_2 r5_3 r5_4 r5_5 n_200051) l6_200051 l7_200051 a5_count_200051 a5_over_200051 a5_items_200051 v_nowCount_200051 v_nextCount_200051 v_stamp_200051 v_stackCount_200051 v_edges_200051 v_nowAt_200051 v_nowCells_200051 v_nextAt_200051 v_nextCells_200051 v_seen_200051 v_waits_200051 v_cells_200051 v_stack_200051 v_kept_200051 := by
            intro f66
            unfold w_X3_run_v1_200079
            refine ok_J7_fill_53178  (fun r200084_0 => ?_)
            intro g200094 eg200094
            refine ok_X3_markEdges (by omega) (by omega) (by omega) (fun r200098_0 => ?_)
            refine ok_X3_spread (by omega) (by omega) (fun r200112_0 r200112_1 r200112_2 r200112_3 r200112_4 r200112_5 r200112_6 r200112_7 r200112_8 f67 f68 f69 => ?_)
            exact j_200115 r200112_0 r200112_1 r200098_0 r200112_2 r200112_3 r200112_4 r200112_5 r200112_6 r200112_7 r200112_8 (by omega) (by omega)
          refine ⟨fun c200071 => ?_, fun c200071 => ?_⟩
          · have f70 : l7_200051.toInt = p3.toInt := i_eq (a := l7_200051.toInt) (b := p3.toInt) rfl rfl c200071
            exact j_200079  (by omega)
          · have f71 : l7_200051.toInt ≠ p3.toInt := i_ne (a := l7_200051.toInt) (b := p3.toInt) rfl rfl c200071
            refine ⟨fun c200076 => ?_, fun c200076 => ?_⟩
            · have f72 : p4.toInt ≠ 0 := i_ne (a := p4.toInt) (b := 0) rfl rfl c200076
              exact j_200115 v_nextCount_200051 v_stackCount_200051 v_edges_200051 v_nextAt_200051 v_nextCells_200051 v_seen_200051 v_waits_200051 v_cells_200051 v_stack_200051 v_kept_200051 (by omega) (by omega)
            · have f73 : p4.toInt = 0 := i_eq (a := p4.toInt) (b := 0) rfl rfl c200076
              exact j_200079  (by omega)
  exact ⟨((-1) * p3.toInt + 2147483648).toNat + 1, j_200051   (((-1) * p3.toInt + 2147483648).toNat + 1) 0 p3 a5_count a5_over a5_items v_nowCount 0 x200041 v_stackCount v_edges v_nowAt v_nowCells v_nextAt v_nextCells v_seen v_waits v_cells v_stack v_kept  (by omega) (by omega) (by omega) (by omega) (by omega) (by omega) (by omega)⟩
set_option maxHeartbeats 4000000 in
theorem ok_J7_fill_53178_v2 {p1 : Int32} {a0_ : Nat → Int32} {Q : (Nat → Int32) → Prop} (hq : ∀ (oa0_ : Nat → Int32), Q oa0_) : w_J7_fill_53178_v2 p1 a0_ Q := by
  have q_t : (bz true).toInt = 1 := rfl
  have q_f : (bz false).toInt = 0 := rfl
  have q_0 : (0 : Int32).toInt = 0 := rfl
  have q_266 : (266 : Int32).toInt = 266 := rfl
  unfold w_J7_fill_53178_v2
  have j_5 : ∀ n_5 : Nat, ∀ (l2_5 : Int32) (a0__5 : Nat → Int32), 0 ≤ l2_5.toInt → ((-1) * l2_5.toInt + 2147483648).toNat < n_5 → w_J7_fill_53178_v2_5 p1 Q 266 n_5 l2_5 a0__5 := by
    intro n_5
    induction n_5 with
    | zero =>
      intro l2_5 a0__5 f1 hm_5
      exfalso; omega
    | succ n_5 ih_5 =>
      intro l2_5 a0__5 f1 hm_5
      unfold w_J7_fill_53178_v2_5
      unfold w_J7_fill_53178_v2_5B
      refine ⟨fun c7 => ?_, fun c7 => ?_⟩
      · have f2 : 266 ≤ l2_5.toInt := i_le (a := 266) (b := l2_5.toInt) rfl rfl c7
        exact hq a0__5 
      · have f3 : l2_5.toInt < 266 := i_nle (a := 266) (b := l2_5.toInt) rfl rfl c7
        refine ⟨i_in (by omega) (by omega), ?_⟩
        intro g13 eg13
        intro x14 ex14
        have f4 : x14.toInt = l2_5.toInt + 1 := i_add (a := l2_5.toInt) (b := 1) ex14 rfl rfl (by omega) (by omega)
        exact ih_5 x14 g13  (by omega) (by have h8_0 := i_rng l2_5; have h8_1 := i_rng x14; omega)
  exact ⟨(2147483648 : Int).toNat + 1, j_5   ((2147483648 : Int).toNat + 1) 0 a0_  (by omega) (by omega)⟩
set_option maxHeartbeats 4000000 in
theorem ok_X1_startAt {p1 : Int32} {v_cells : Nat → Int32} {Q : Int32 → Int32 → Int32 → Int32 → Int32 → Int32 → (Nat → Int32) → Prop} (hq : ∀ (ov_start : Int32) (ov_mode : Int32) (ov_node : Int32) (ov_place : Int32) (ov_choiceCount : Int32) (ov_trailCount : Int32) (ov_cells : Nat → Int32), ov_start.toInt = p1.toInt → ov_mode.toInt = 0 → ov_node.toInt = 0 → ov_place.toInt = p1.toInt → ov_choiceCount.toInt = 0 → ov_trailCount.toInt = 0 → Q ov_start ov_mode ov_node ov_place ov_choiceCount ov_trailCount ov_cells) : w_X1_startAt p1 v_cells Q := by
  have q_t : (bz true).toInt = 1 := rfl
  have q_f : (bz false).toInt = 0 := rfl
  have q_0 : (0 : Int32).toInt = 0 := rfl
  unfold w_X1_startAt
  refine ok_J7_fill_53178_v2  (fun r35_0 => ?_)
  exact hq p1 0 0 p1 0 0 r35_0 (by omega) (by omega) (by omega) (by omega) (by omega) (by omega)
set_option maxHeartbeats 4000000 in
theorem ok_X1_begin_v1 {p3 : Int32} {p4 : Int32} {v_cells : Nat → Int32} {Q : Int32 → Bool → Int32 → Int32 → Int32 → Int32 → Int32 → Int32 → (Nat → Int32) → Prop} (a0 : 0 ≤ p4.toInt) (a1 : p4.toInt ≤ 1) (hq : ∀ (ov_steps : Int32) (ov_wholeOnly : Bool) (ov_start : Int32) (ov_mode : Int32) (ov_node : Int32) (ov_place : Int32) (ov_choiceCount : Int32) (ov_trailCount : Int32) (ov_cells : Nat → Int32), ov_steps.toInt = 0 → (bz ov_wholeOnly).toInt = p4.toInt → ov_start.toInt = p3.toInt → ov_mode.toInt = 0 → ov_node.toInt = 0 → ov_place.toInt = p3.toInt → ov_choiceCount.toInt = 0 → ov_trailCount.toInt = 0 → Q ov_steps ov_wholeOnly ov_start ov_mode ov_node ov_place ov_choiceCount ov_trailCount ov_cells) : w_X1_begin_v1 p3 p4 v_cells Q := by
  have q_t : (bz true).toInt = 1 := rfl
  have q_f : (bz false).toInt = 0 := rfl
  have q_0 : (0 : Int32).toInt = 0 := rfl
  unfold w_X1_begin_v1
  refine ⟨i_01 (by omega) (by omega), ?_⟩
  intro b200013 eb200013
  have f1 : (bz b200013).toInt = p4.toInt := by rw [← eb200013]
  refine ok_X1_startAt  (fun r200023_0 r200023_1 r200023_2 r200023_3 r200023_4 r200023_5 r200023_6 f2 f3 f4 f5 f6 f7 => ?_)
  exact hq 0 b200013 r200023_0 r200023_1 r200023_2 r200023_3 r200023_4 r200023_5 r200023_6 (by omega) (by omega) (by omega) (by omega) (by omega) (by omega) (by omega) (by omega)
set_option maxHeartbeats 4000000 in
theorem ok_X11_refusalOfSome {p1 : Int32} {p2 : Int32} {v_patterns : Nat → Option Nat} {v_patterns_0_count : Int32} {v_patterns_0_sort : Nat → Int32} {v_patterns_0_end : Nat → Int32} {v_patterns_0_value : Nat → Int32} {v_patterns_0_low : Nat → Int32} {v_patterns_0_high : Nat → Int32} {v_patterns_0_size : Nat → Int32} {v_patterns_0_positions : Nat → Int32} {v_patterns_0_mayBeEmpty : Nat → Bool} {v_patterns_1_count : Int32} {v_patterns_1_sort : Nat → Int32} {v_patterns_1_end : Nat → Int32} {v_patterns_1_value : Nat → Int32} {v_patterns_1_low : Nat → Int32} {v_patterns_1_high : Nat → Int32} {v_patterns_1_size : Nat → Int32} {v_patterns_1_positions : Nat → Int32} {v_patterns_1_mayBeEmpty : Nat → Bool} {v_patterns_2_count : Int32} {v_patterns_2_sort : Nat → Int32} {v_patterns_2_end : Nat → Int32} {v_patterns_2_value : Nat → Int32} {v_patterns_2_low : Nat → Int32} {v_patterns_2_high : Nat → Int32} {v_patterns_2_size : Nat → Int32} {v_patterns_2_positions : Nat → Int32} {v_patterns_2_mayBeEmpty : Nat → Bool} {v_patterns_3_count : Int32} {v_patterns_3_sort : Nat → Int32} {v_patterns_3_end : Nat → Int32} {v_patterns_3_value : Nat → Int32} {v_patterns_3_low : Nat → Int32} {v_patterns_3_high : Nat → Int32} {v_patterns_3_size : Nat → Int32} {v_patterns_3_positions : Nat → Int32} {v_patterns_3_mayBeEmpty : Nat → Bool} {v_patterns_4_count : Int32} {v_patterns_4_sort : Nat → Int32} {v_patterns_4_end : Nat → Int32} {v_patterns_4_value : Nat → Int32} {v_patterns_4_low : Nat → Int32} {v_patterns_4_high : Nat → Int32} {v_patterns_4_size : Nat → Int32} {v_patterns_4_positions : Nat → Int32} {v_patterns_4_mayBeEmpty : Nat → Bool} {v_patterns_5_count : Int32} {v_patterns_5_sort : Nat → Int32} {v_patterns_5_end : Nat → Int32} {v_patterns_5_value : Nat → Int32} {v_patterns_5_low : Nat → Int32} {v_patterns_5_high : Nat → Int32} {v_patterns_5_size : Nat → Int32} {v_patterns_5_positions : Nat → Int32} {v_patterns_5_mayBeEmpty : Nat → Bool} {h2 : Nat} {h11 : Nat} {h20 : Nat} {h29 : Nat} {h38 : Nat} {h47 : Nat} {Q : Int32 → Prop} (a0 : 0 ≤ v_patterns_0_count.toInt) (a1 : v_patterns_0_count.toInt ≤ 256) (a2 : 0 ≤ v_patterns_1_count.toInt) (a3 : v_patterns_1_count.toInt ≤ 256) (a4 : 0 ≤ v_patterns_2_count.toInt) (a5 : v_patterns_2_count.toInt ≤ 256) (a6 : 0 ≤ v_patterns_3_count.toInt) (a7 : v_patterns_3_count.toInt ≤ 256) (a8 : 0 ≤ v_patterns_4_count.toInt) (a9 : v_patterns_4_count.toInt ≤ 256) (a10 : 0 ≤ v_patterns_5_count.toInt) (a11 : v_patterns_5_count.toInt ≤ 256) (b0 : rp (fun k v => k < v ∧ v ≤ 256) v_patterns_0_end 0 v_patterns_0_count.toInt) (b1 : rp (fun k v => k < v ∧ v ≤ 256) v_patterns_1_end 0 v_patterns_1_count.toInt) (b2 : rp (fun k v => k < v ∧ v ≤ 256) v_patterns_2_end 0 v_patterns_2_count.toInt) (b3 : rp (fun k v => k < v ∧ v ≤ 256) v_patterns_3_end 0 v_patterns_3_count.toInt) (b4 : rp (fun k v => k < v ∧ v ≤ 256) v_patterns_4_end 0 v_patterns_4_count.toInt) (b5 : rp (fun k v => k < v ∧ v ≤ 256) v_patterns_5_end 0 v_patterns_5_count.toInt) (v0 : v_patterns (0 : Int32).toNatClampNeg = some h2) (v1 : v_patterns (1 : Int32).toNatClampNeg = some h11) (v2 : v_patterns (2 : Int32).toNatClampNeg = some h20) (v3 : v_patterns (3 : Int32).toNatClampNeg = some h29) (v4 : v_patterns (4 : Int32).toNatClampNeg = some h38) (v5 : v_patterns (5 : Int32).toNatClampNeg = some h47) (hq : ∀ (r : Int32), 0 ≤ r.toInt + 7 → r.toInt ≤ 0 → Q r) : w_X11_refusalOfSome p1 p2 v_patterns v_patterns_0_count v_patterns_0_sort v_patterns_0_end v_patterns_0_value v_patterns_0_low v_patterns_0_high v_patterns_0_size v_patterns_0_positions v_patterns_0_mayBeEmpty v_patterns_1_count v_patterns_1_sort v_patterns_1_end v_patterns_1_value v_patterns_1_low v_patterns_1_high v_patterns_1_size v_patterns_1_positions v_patterns_1_mayBeEmpty v_patterns_2_count v_patterns_2_sort v_patterns_2_end v_patterns_2_value v_patterns_2_low v_patterns_2_high v_patterns_2_size v_patterns_2_positions v_patterns_2_mayBeEmpty v_patterns_3_count v_patterns_3_sort v_patterns_3_end v_patterns_3_value v_patterns_3_low v_patterns_3_high v_patterns_3_size v_patterns_3_positions v_patterns_3_mayBeEmpty v_patterns_4_count v_patterns_4_sort v_patterns_4_end v_patterns_4_value v_patterns_4_low v_patterns_4_high v_patterns_4_size v_patterns_4_positions v_patterns_4_mayBeEmpty v_patterns_5_count v_patterns_5_sort v_patterns_5_end v_patterns_5_value v_patterns_5_low v_patterns_5_high v_patterns_5_size v_patterns_5_positions v_patterns_5_mayBeEmpty h2 h11 h20 h29 h38 h47 Q := by
  have q_t : (bz true).toInt = 1 := rfl
  have q_f : (bz false).toInt = 0 := rfl
  have q_m7 : ((-7) : Int32).toInt = (-7) := rfl
  have q_m6 : ((-6) : Int32).toInt = (-6) := rfl
  have q_0 : (0 : Int32).toInt = 0 := rfl
  have q_1 : (1 : Int32).toInt = 1 := rfl
  have q_2 : (2 : Int32).toInt = 2 := rfl
  have q_3 : (3 : Int32).toInt = 3 := rfl
  have q_4 : (4 : Int32).toInt = 4 := rfl
  have q_5 : (5 : Int32).toInt = 5 := rfl
  have q_6 : (6 : Int32).toInt = 6 := rfl
  unfold w_X11_refusalOfSome
  refine ok_X11_isTold  (fun r100018 f1 f2 => ?_)
  have j_100065 : ∀ (l3_100065 : Int32), ((l3_100065.toInt = 0 ∧ r100018.toInt = 0) ∨ (0 ≤ l3_100065.toInt ∧ l3_100065.toInt ≤ 1)) → w_X11_refusalOfSome_100065 p1 p2 v_patterns v_patterns_1_count v_patterns_1_sort v_patterns_1_end v_patterns_1_value v_patterns_1_low v_patterns_1_high v_patterns_1_size v_patterns_1_positions v_patterns_1_mayBeEmpty v_patterns_2_count v_patterns_2_sort v_patterns_2_end v_patterns_2_value v_patterns_2_low v_patterns_2_high v_patterns_2_size v_patterns_2_positions v_patterns_2_mayBeEmpty v_patterns_3_count v_patterns_3_sort v_patterns_3_end v_patterns_3_value v_patterns_3_low v_patterns_3_high v_patterns_3_size v_patterns_3_positions v_patterns_3_mayBeEmpty v_patterns_4_count v_patterns_4_sort v_patterns_4_end v_patterns_4_value v_patterns_4_low v_patterns_4_high v_patterns_4_size v_patterns_4_positions v_patterns_4_mayBeEmpty v_patterns_5_count v_patterns_5_sort v_patterns_5_end v_patterns_5_value v_patterns_5_low v_patterns_5_high v_patterns_5_size v_patterns_5_positions v_patterns_5_mayBeEmpty h11 h20 h29 h38 h47 Q l3_100065 := by
    intro l3_100065 f3
    unfold w_X11_refusalOfSome_100065
    refine ok_X11_isTold  (fun r200018 f4 f5 => ?_)
    have j_200065 : ∀ (l3_200065 : Int32), ((l3_200065.toInt = l3_100065.toInt ∧ r200018.toInt = 0) ∨ (0 ≤ l3_200065.toInt ∧ l3_200065.toInt ≤ 1)) → w_X11_refusalOfSome_200065 p1 p2 v_patterns v_patterns_2_count v_patterns_2_sort v_patterns_2_end v_patterns_2_value v_patterns_2_low v_patterns_2_high v_patterns_2_size v_patterns_2_positions v_patterns_2_mayBeEmpty v_patterns_3_count v_patterns_3_sort v_patterns_3_end v_patterns_3_value v_patterns_3_low v_patterns_3_high v_patterns_3_size v_patterns_3_positions v_patterns_3_mayBeEmpty v_patterns_4_count v_patterns_4_sort v_patterns_4_end v_patterns_4_value v_patterns_4_low v_patterns_4_high v_patterns_4_size v_patterns_4_positions v_patterns_4_mayBeEmpty v_patterns_5_count v_patterns_5_sort v_patterns_5_end v_patterns_5_value v_patterns_5_low v_patterns_5_high v_patterns_5_size v_patterns_5_positions v_patterns_5_mayBeEmpty h20 h29 h38 h47 Q l3_200065 := by
      intro l3_200065 f6
      unfold w_X11_refusalOfSome_200065
      refine ok_X11_isTold  (fun r300018 f7 f8 => ?_)
      have j_300065 : ∀ (l3_300065 : Int32), ((l3_300065.toInt = l3_200065.toInt ∧ r300018.toInt = 0) ∨ (0 ≤ l3_300065.toInt ∧ l3_300065.toInt ≤ 1)) → w_X11_refusalOfSome_300065 p1 p2 v_patterns v_patterns_3_count v_patterns_3_sort v_patterns_3_end v_patterns_3_value v_patterns_3_low v_patterns_3_high v_patterns_3_size v_patterns_3_positions v_patterns_3_mayBeEmpty v_patterns_4_count v_patterns_4_sort v_patterns_4_end v_patterns_4_value v_patterns_4_low v_patterns_4_high v_patterns_4_size v_patterns_4_positions v_patterns_4_mayBeEmpty v_patterns_5_count v_patterns_5_sort v_patterns_5_end v_patterns_5_value v_patterns_5_low v_patterns_5_high v_patterns_5_size v_patterns_5_positions v_patterns_5_mayBeEmpty h29 h38 h47 Q l3_300065 := by
        intro l3_300065 f9
        unfold w_X11_refusalOfSome_300065
        refine ok_X11_isTold  (fun r400018 f10 f11 => ?_)
        have j_400065 : ∀ (l3_400065 : Int32), ((l3_400065.toInt = l3_300065.toInt ∧ r400018.toInt = 0) ∨ (0 ≤ l3_400065.toInt ∧ l3_400065.toInt ≤ 1)) → w_X11_refusalOfSome_400065 p1 p2 v_patterns v_patterns_4_count v_patterns_4_sort v_patterns_4_end v_patterns_4_value v_patterns_4_low v_patterns_4_high v_patterns_4_size v_patterns_4_positions v_patterns_4_mayBeEmpty v_patterns_5_count v_patterns_5_sort v_patterns_5_end v_patterns_5_value v_patterns_5_low v_patterns_5_high v_patterns_5_size v_patterns_5_positions v_patterns_5_mayBeEmpty h38 h47 Q l3_400065 := by
          intro l3_400065 f12
          unfold w_X11_refusalOfSome_400065
          refine ok_X11_isTold  (fun r500018 f13 f14 => ?_)
          have j_500065 : ∀ (l3_500065 : Int32), ((l3_500065.toInt = l3_400065.toInt ∧ r500018.toInt = 0) ∨ (0 ≤ l3_500065.toInt ∧ l3_500065.toInt ≤ 1)) → w_X11_refusalOfSome_500065 p1 p2 v_patterns v_patterns_5_count v_patterns_5_sort v_patterns_5_end v_patterns_5_value v_patterns_5_low v_patterns_5_high v_patterns_5_size v_patterns_5_positions v_patterns_5_mayBeEmpty h47 Q l3_500065 := by
            intro l3_500065 f15
            unfold w_X11_refusalOfSome_500065
            refine ok_X11_isTold  (fun r600018 f16 f17 => ?_)
            have j_600065 : ∀ (l3_600065 : Int32), ((l3_600065.toInt = l3_500065.toInt ∧ r600018.toInt = 0) ∨ (0 ≤ l3_600065.toInt ∧ l3_600065.toInt ≤ 1)) → w_X11_refusalOfSome_600065 Q l3_600065 := by
              intro l3_600065 f18
              unfold w_X11_refusalOfSome_600065
              have j_700081 : ∀ (s0_700081 : Int32), ((s0_700081.toInt = 0 ∧ l3_600065.toInt = 0) ∨ (s0_700081.toInt + 7 = 0)) → w_X11_refusalOfSome_700081 Q s0_700081 := by
                intro s0_700081 f19
                unfold w_X11_refusalOfSome_700081
                exact hq s0_700081 (by omega) (by omega)
              refine ⟨fun c700072 => ?_, fun c700072 => ?_⟩
              · have f20 : l3_600065.toInt = 0 := i_eq (a := l3_600065.toInt) (b := 0) rfl rfl c700072
                exact j_700081 0 (by omega)
              · have f21 : l3_600065.toInt ≠ 0 := i_ne (a := l3_600065.toInt) (b := 0) rfl rfl c700072
                exact j_700081 (-7) (by omega)
            refine ⟨fun c600021 => ?_, fun c600021 => ?_⟩
            · have f22 : r600018.toInt ≠ 0 := i_ne (a := r600018.toInt) (b := 0) rfl rfl c600021
              refine ⟨v5, ?_⟩
              refine ok_X11_refusalByMachine (by omega) (by omega) (rp_mono b5 (by omega) (by omega)) (fun r600035 f23 f24 => ?_)
              refine ⟨fun c600044 => ?_, fun c600044 => ?_⟩
              · have f25 : r600035.toInt ≠ (-6) := i_ne (a := r600035.toInt) (b := (-6)) rfl rfl c600044
                have j_600063 : ∀ (s0_600063 : Int32), ((s0_600063.toInt = 0) ∨ (s0_600063.toInt = 1 ∧ r600035.toInt + 7 = 0)) → w_X11_refusalOfSome_600063 Q s0_600063 l3_500065 := by
                  intro s0_600063 f26
                  unfold w_X11_refusalOfSome_600063
                  intro x600063 ex600063
                  have f27 : (0 ≤ x600063.toInt ∧ x600063.toInt ≤ 1) := i_or01 (a := l3_500065.toInt) (b := s0_600063.toInt) ex600063 rfl rfl (by omega) (by omega) (by omega) (by omega)
                  exact j_600065 x600063 (by omega)
                refine ⟨fun c600055 => ?_, fun c600055 => ?_⟩
                · have f28 : r600035.toInt ≠ (-7) := i_ne (a := r600035.toInt) (b := (-7)) rfl rfl c600055
                  exact j_600063 0 (by omega)
                · have f29 : r600035.toInt = (-7) := i_eq (a := r600035.toInt) (b := (-7)) rfl rfl c600055
                  exact j_600063 1 (by omega)
              · have f30 : r600035.toInt = (-6) := i_eq (a := r600035.toInt) (b := (-6)) rfl rfl c600044
                exact hq (-6) (by omega) (by omega)
            · have f31 : r600018.toInt = 0 := i_eq (a := r600018.toInt) (b := 0) rfl rfl c600021
              exact j_600065 l3_500065 (by omega)
          refine ⟨fun c500021 => ?_, fun c500021 => ?_⟩
          · have f32 : r500018.toInt ≠ 0 := i_ne (a := r500018.toInt) (b := 0) rfl rfl c500021
            refine ⟨v4, ?_⟩
            refine ok_X11_refusalByMachine (by omega) (by omega) (rp_mono b4 (by omega) (by omega)) (fun r500035 f33 f34 => ?_)
            refine ⟨fun c500044 => ?_, fun c500044 => ?_⟩
            · have f35 : r500035.toInt ≠ (-6) := i_ne (a := r500035.toInt) (b := (-6)) rfl rfl c500044
              have j_500063 : ∀ (s0_500063 : Int32), ((s0_500063.toInt = 0) ∨ (s0_500063.toInt = 1 ∧ r500035.toInt + 7 = 0)) → w_X11_refusalOfSome_500063 p1 p2 v_patterns v_patterns_5_count v_patterns_5_sort v_patterns_5_end v_patterns_5_value v_patterns_5_low v_patterns_5_high v_patterns_5_size v_patterns_5_positions v_patterns_5_mayBeEmpty h47 Q s0_500063 l3_400065 := by
                intro s0_500063 f36
                unfold w_X11_refusalOfSome_500063
                intro x500063 ex500063
                have f37 : (0 ≤ x500063.toInt ∧ x500063.toInt ≤ 1) := i_or01 (a := l3_400065.toInt) (b := s0_500063.toInt) ex500063 rfl rfl (by omega) (by omega) (by omega) (by omega)
                exact j_500065 x500063 (by omega)
              refine ⟨fun c500055 => ?_, fun c500055 => ?_⟩
              · have f38 : r500035.toInt ≠ (-7) := i_ne (a := r500035.toInt) (b := (-7)) rfl rfl c500055
                exact j_500063 0 (by omega)
              · have f39 : r500035.toInt = (-7) := i_eq (a := r500035.toInt) (b := (-7)) rfl rfl c500055
                exact j_500063 1 (by omega)
            · have f40 : r500035.toInt = (-6) := i_eq (a := r500035.toInt) (b := (-6)) rfl rfl c500044
              exact hq (-6) (by omega) (by omega)
          · have f41 : r500018.toInt = 0 := i_eq (a := r500018.toInt) (b := 0) rfl rfl c500021
            exact j_500065 l3_400065 (by omega)
        refine ⟨fun c400021 => ?_, fun c400021 => ?_⟩
        · have f42 : r400018.toInt ≠ 0 := i_ne (a := r400018.toInt) (b := 0) rfl rfl c400021
          refine ⟨v3, ?_⟩
          refine ok_X11_refusalByMachine (by omega) (by omega) (rp_mono b3 (by omega) (by omega)) (fun r400035 f43 f44 => ?_)
          refine ⟨fun c400044 => ?_, fun c400044 => ?_⟩
          · have f45 : r400035.toInt ≠ (-6) := i_ne (a := r400035.toInt) (b := (-6)) rfl rfl c400044
            have j_400063 : ∀ (s0_400063 : Int32), ((s0_400063.toInt = 0) ∨ (s0_400063.toInt = 1 ∧ r400035.toInt + 7 = 0)) → w_X11_refusalOfSome_400063 p1 p2 v_patterns v_patterns_4_count v_patterns_4_sort v_patterns_4_end v_patterns_4_value v_patterns_4_low v_patterns_4_high v_patterns_4_size v_patterns_4_positions v_patterns_4_mayBeEmpty v_patterns_5_count v_patterns_5_sort v_patterns_5_end v_patterns_5_value v_patterns_5_low v_patterns_5_high v_patterns_5_size v_patterns_5_positions v_patterns_5_mayBeEmpty h38 h47 Q s0_400063 l3_300065 := by
              intro s0_400063 f46
              unfold w_X11_refusalOfSome_400063
              intro x400063 ex400063
              have f47 : (0 ≤ x400063.toInt ∧ x400063.toInt ≤ 1) := i_or01 (a := l3_300065.toInt) (b := s0_400063.toInt) ex400063 rfl rfl (by omega) (by omega) (by omega) (by omega)
              exact j_400065 x400063 (by omega)
            refine ⟨fun c400055 => ?_, fun c400055 => ?_⟩
            · have f48 : r400035.toInt ≠ (-7) := i_ne (a := r400035.toInt) (b := (-7)) rfl rfl c400055
              exact j_400063 0 (by omega)
            · have f49 : r400035.toInt = (-7) := i_eq (a := r400035.toInt) (b := (-7)) rfl rfl c400055
              exact j_400063 1 (by omega)
          · have f50 : r400035.toInt = (-6) := i_eq (a := r400035.toInt) (b := (-6)) rfl rfl c400044
            exact hq (-6) (by omega) (by omega)
        · have f51 : r400018.toInt = 0 := i_eq (a := r400018.toInt) (b := 0) rfl rfl c400021
          exact j_400065 l3_300065 (by omega)
      refine ⟨fun c300021 => ?_, fun c300021 => ?_⟩
      · have f52 : r300018.toInt ≠ 0 := i_ne (a := r300018.toInt) (b := 0) rfl rfl c300021
        refine ⟨v2, ?_⟩
        refine ok_X11_refusalByMachine (by omega) (by omega) (rp_mono b2 (by omega) (by omega)) (fun r300035 f53 f54 => ?_)
        refine ⟨fun c300044 => ?_, fun c300044 => ?_⟩
        · have f55 : r300035.toInt ≠ (-6) := i_ne (a := r300035.toInt) (b := (-6)) rfl rfl c300044
          have j_300063 : ∀ (s0_300063 : Int32), ((s0_300063.toInt = 0) ∨ (s0_300063.toInt = 1 ∧ r300035.toInt + 7 = 0)) → w_X11_refusalOfSome_300063 p1 p2 v_patterns v_patterns_3_count v_patterns_3_sort v_patterns_3_end v_patterns_3_value v_patterns_3_low v_patterns_3_high v_patterns_3_size v_patterns_3_positions v_patterns_3_mayBeEmpty v_patterns_4_count v_patterns_4_sort v_patterns_4_end v_patterns_4_value v_patterns_4_low v_patterns_4_high v_patterns_4_size v_patterns_4_positions v_patterns_4_mayBeEmpty v_patterns_5_count v_patterns_5_sort v_patterns_5_end v_patterns_5_value v_patterns_5_low v_patterns_5_high v_patterns_5_size v_patterns_5_positions v_patterns_5_mayBeEmpty h29 h38 h47 Q s0_300063 l3_200065 := by
            intro s0_300063 f56
            unfold w_X11_refusalOfSome_300063
            intro x300063 ex300063
            have f57 : (0 ≤ x300063.toInt ∧ x300063.toInt ≤ 1) := i_or01 (a := l3_200065.toInt) (b := s0_300063.toInt) ex300063 rfl rfl (by omega) (by omega) (by omega) (by omega)
            exact j_300065 x300063 (by omega)
          refine ⟨fun c300055 => ?_, fun c300055 => ?_⟩
          · have f58 : r300035.toInt ≠ (-7) := i_ne (a := r300035.toInt) (b := (-7)) rfl rfl c300055
            exact j_300063 0 (by omega)
          · have f59 : r300035.toInt = (-7) := i_eq (a := r300035.toInt) (b := (-7)) rfl rfl c300055
            exact j_300063 1 (by omega)
        · have f60 : r300035.toInt = (-6) := i_eq (a := r300035.toInt) (b := (-6)) rfl rfl c300044
          exact hq (-6) (by omega) (by omega)
      · have f61 : r300018.toInt = 0 := i_eq (a := r300018.toInt) (b := 0) rfl rfl c300021
        exact j_300065 l3_200065 (by omega)
    refine ⟨fun c200021 => ?_, fun c200021 => ?_⟩
    · have f62 : r200018.toInt ≠ 0 := i_ne (a := r200018.toInt) (b := 0) rfl rfl c200021
      refine ⟨v1, ?_⟩
      refine ok_X11_refusalByMachine (by omega) (by omega) (rp_mono b1 (by omega) (by omega)) (fun r200035 f63 f64 => ?_)
      refine ⟨fun c200044 => ?_, fun c200044 => ?_⟩
      · have f65 : r200035.toInt ≠ (-6) := i_ne (a := r200035.toInt) (b := (-6)) rfl rfl c200044
        have j_200063 : ∀ (s0_200063 : Int32), ((s0_200063.toInt = 0) ∨ (s0_200063.toInt = 1 ∧ r200035.toInt + 7 = 0)) → w_X11_refusalOfSome_200063 p1 p2 v_patterns v_patterns_2_count v_patterns_2_sort v_patterns_2_end v_patterns_2_value v_patterns_2_low v_patterns_2_high v_patterns_2_size v_patterns_2_positions v_patterns_2_mayBeEmpty v_patterns_3_count v_patterns_3_sort v_patterns_3_end v_patterns_3_value v_patterns_3_low v_patterns_3_high v_patterns_3_size v_patterns_3_positions v_patterns_3_mayBeEmpty v_patterns_4_count v_patterns_4_sort v_patterns_4_end v_patterns_4_value v_patterns_4_low v_patterns_4_high v_patterns_4_size v_patterns_4_positions v_patterns_4_mayBeEmpty v_patterns_5_count v_patterns_5_sort v_patterns_5_end v_patterns_5_value v_patterns_5_low v_patterns_5_high v_patterns_5_size v_patterns_5_positions v_patterns_5_mayBeEmpty h20 h29 h38 h47 Q s0_200063 l3_100065 := by
          intro s0_200063 f66
          unfold w_X11_refusalOfSome_200063
          intro x200063 ex200063
          have f67 : (0 ≤ x200063.toInt ∧ x200063.toInt ≤ 1) := i_or01 (a := l3_100065.toInt) (b := s0_200063.toInt) ex200063 rfl rfl (by omega) (by omega) (by omega) (by omega)
          exact j_200065 x200063 (by omega)
        refine ⟨fun c200055 => ?_, fun c200055 => ?_⟩
        · have f68 : r200035.toInt ≠ (-7) := i_ne (a := r200035.toInt) (b := (-7)) rfl rfl c200055
          exact j_200063 0 (by omega)
        · have f69 : r200035.toInt = (-7) := i_eq (a := r200035.toInt) (b := (-7)) rfl rfl c200055
          exact j_200063 1 (by omega)
      · have f70 : r200035.toInt = (-6) := i_eq (a := r200035.toInt) (b := (-6)) rfl rfl c200044
        exact hq (-6) (by omega) (by omega)
    · have f71 : r200018.toInt = 0 := i_eq (a := r200018.toInt) (b := 0) rfl rfl c200021
      exact j_200065 l3_100065 (by omega)
  refine ⟨fun c100021 => ?_, fun c100021 => ?_⟩
  · have f72 : r100018.toInt ≠ 0 := i_ne (a := r100018.toInt) (b := 0) rfl rfl c100021
    refine ⟨v0, ?_⟩
    refine ok_X11_refusalByMachine (by omega) (by omega) (rp_mono b0 (by omega) (by omega)) (fun r100035 f73 f74 => ?_)
    refine ⟨fun c100044 => ?_, fun c100044 => ?_⟩
    · have f75 : r100035.toInt ≠ (-6) := i_ne (a := r100035.toInt) (b := (-6)) rfl rfl c100044
      have j_100063 : ∀ (s0_100063 : Int32), ((s0_100063.toInt = 0) ∨ (s0_100063.toInt = 1 ∧ r100035.toInt + 7 = 0)) → w_X11_refusalOfSome_100063 p1 p2 v_patterns v_patterns_1_count v_patterns_1_sort v_patterns_1_end v_patterns_1_value v_patterns_1_low v_patterns_1_high v_patterns_1_size v_patterns_1_positions v_patterns_1_mayBeEmpty v_patterns_2_count v_patterns_2_sort v_patterns_2_end v_patterns_2_value v_patterns_2_low v_patterns_2_high v_patterns_2_size v_patterns_2_positions v_patterns_2_mayBeEmpty v_patterns_3_count v_patterns_3_sort v_patterns_3_end v_patterns_3_value v_patterns_3_low v_patterns_3_high v_patterns_3_size v_patterns_3_positions v_patterns_3_mayBeEmpty v_patterns_4_count v_patterns_4_sort v_patterns_4_end v_patterns_4_value v_patterns_4_low v_patterns_4_high v_patterns_4_size v_patterns_4_positions v_patterns_4_mayBeEmpty v_patterns_5_count v_patterns_5_sort v_patterns_5_end v_patterns_5_value v_patterns_5_low v_patterns_5_high v_patterns_5_size v_patterns_5_positions v_patterns_5_mayBeEmpty h11 h20 h29 h38 h47 Q s0_100063 0 := by
        intro s0_100063 f76
        unfold w_X11_refusalOfSome_100063
        intro x100063 ex100063
        have f77 : (0 ≤ x100063.toInt ∧ x100063.toInt ≤ 1) := i_or01 (a := 0) (b := s0_100063.toInt) ex100063 rfl rfl (by omega) (by omega) (by omega) (by omega)
        exact j_100065 x100063 (by omega)
      refine ⟨fun c100055 => ?_, fun c100055 => ?_⟩
      · have f78 : r100035.toInt ≠ (-7) := i_ne (a := r100035.toInt) (b := (-7)) rfl rfl c100055
        exact j_100063 0 (by omega)
      · have f79 : r100035.toInt = (-7) := i_eq (a := r100035.toInt) (b := (-7)) rfl rfl c100055
        exact j_100063 1 (by omega)
    · have f80 : r100035.toInt = (-6) := i_eq (a := r100035.toInt) (b := (-6)) rfl rfl c100044
      exact hq (-6) (by omega) (by omega)
  · have f81 : r100018.toInt = 0 := i_eq (a := r100018.toInt) (b := 0) rfl rfl c100021
    exact j_100065 0 (by omega)
set_option maxHeartbeats 4000000 in
theorem ok_X0_gather_v2 {v_begins : Nat → Int32} {a1_count : Int32} {a1_ranges : Int32} {a1_sort : Nat → Int32} {a1_parts : Nat → Int32} {a1_value : Nat → Int32} {a1_low : Nat → Int32} {a1_high : Nat → Int32} {a1_withinCase : Nat → Bool} {a1_rangeBegin : Nat → Int32} {a1_rangeEnd : Nat → Int32} {a2_count : Int32} {a2_ranges : Int32} {a2_sort : Nat → Int32} {a2_parts : Nat → Int32} {a2_value : Nat → Int32} {a2_low : Nat → Int32} {a2_high : Nat → Int32} {a2_withinCase : Nat → Bool} {a2_rangeBegin : Nat → Int32} {a2_rangeEnd : Nat → Int32} {Q : Int32 → (Nat → Int32) → Prop} (a0 : 0 ≤ a1_count.toInt) (a1 : a1_count.toInt ≤ 256) (a2 : 0 ≤ a1_ranges.toInt) (a3 : a1_ranges.toInt ≤ 512) (a4 : 0 ≤ a2_count.toInt) (a5 : a2_count.toInt ≤ 256) (a6 : 0 ≤ a2_ranges.toInt) (a7 : a2_ranges.toInt ≤ 512) (hq : ∀ (ov_count : Int32) (ov_begins : Nat → Int32), 0 ≤ ov_count.toInt + 1 → 0 ≤ ov_count.toInt → ov_count.toInt ≤ 256 → 1 ≤ ov_count.toInt → Q ov_count ov_begins) : w_X0_gather_v2 v_begins a1_count a1_ranges a1_sort a1_parts a1_value a1_low a1_high a1_withinCase a1_rangeBegin a1_rangeEnd a2_count a2_ranges a2_sort a2_parts a2_value a2_low a2_high a2_withinCase a2_rangeBegin a2_rangeEnd Q := by
  have q_t : (bz true).toInt = 1 := rfl
  have q_f : (bz false).toInt = 0 := rfl
  have q_1 : (1 : Int32).toInt = 1 := rfl
  unfold w_X0_gather_v2
  intro g11 eg11
  refine ok_X0_addTree (by omega) (by omega) (by omega) (by omega) (by omega) (by omega) (fun r14_0 r14_1 f1 f2 f3 f4 => ?_)
  refine ok_X0_addTree (by omega) (by omega) (by omega) (by omega) (by omega) (by omega) (fun r23_0 r23_1 f5 f6 f7 f8 => ?_)
  exact hq r23_0 r23_1 (by omega) (by omega) (by omega) (by omega)
set_option maxHeartbeats 4000000 in
theorem ok_X8_make_v3 {v_alphabet_begins : Nat → Int32} {v_one_count : Int32} {v_one_stamp : Int32} {v_one_stackCount : Int32} {v_one_program_start : Int32} {v_one_program_kinds : Nat → Int32} {v_one_program_subjects : Nat → Int32} {v_one_program_nexts : Nat → Int32} {v_one_program_others : Nat → Int32} {v_one_positionOf : Nat → Int32} {v_one_pcOf : Nat → Int32} {v_one_follow : Nat → Int64} {v_one_takers : Nat → Int64} {v_one_seen : Nat → Int32} {v_one_stack : Nat → Int32} {v_one_states : Nat → Int64} {v_one_ahead : Nat → Int64} {v_one_goes : Nat → Int32} {v_other_count : Int32} {v_other_positionCount : Int32} {v_other_stamp : Int32} {v_other_stackCount : Int32} {v_other_width : Int32} {v_other_program_start : Int32} {v_other_program_count : Int32} {v_other_program_kinds : Nat → Int32} {v_other_program_subjects : Nat → Int32} {v_other_program_nexts : Nat → Int32} {v_other_program_others : Nat → Int32} {v_other_positionOf : Nat → Int32} {v_other_pcOf : Nat → Int32} {v_other_follow : Nat → Int64} {v_other_takers : Nat → Int64} {v_other_seen : Nat → Int32} {v_other_stack : Nat → Int32} {v_other_states : Nat → Int64} {v_other_ahead : Nat → Int64} {v_other_goes : Nat → Int32} {a1_there : Bool} {a1_count : Int32} {a1_captures : Int32} {a1_ranges : Int32} {a1_sort : Nat → Int32} {a1_end : Nat → Int32} {a1_before : Nat → Int32} {a1_last : Nat → Int32} {a1_parts : Nat → Int32} {a1_value : Nat → Int32} {a1_low : Nat → Int32} {a1_high : Nat → Int32} {a1_withinCase : Nat → Bool} {a1_rangeBegin : Nat → Int32} {a1_rangeEnd : Nat → Int32} {a2_there : Bool} {a2_count : Int32} {a2_captures : Int32} {a2_ranges : Int32} {a2_sort : Nat → Int32} {a2_end : Nat → Int32} {a2_before : Nat → Int32} {a2_last : Nat → Int32} {a2_parts : Nat → Int32} {a2_value : Nat → Int32} {a2_low : Nat → Int32} {a2_high : Nat → Int32} {a2_withinCase : Nat → Bool} {a2_rangeBegin : Nat → Int32} {a2_rangeEnd : Nat → Int32} {h68 : Nat} {h2 : Nat} {Q : Int32 → Int32 → (Nat → Int32) → Int32 → Int32 → Int32 → Int32 → Int32 → Int32 → Int32 → (Nat → Int32) → (Nat → Int32) → (Nat → Int32) → (Nat → Int32) → (Nat → Int32) → (Nat → Int32) → (Nat → Int64) → (Nat → Int64) → (Nat → Int32) → (Nat → Int32) → (Nat → Int64) → (Nat → Int64) → (Nat → Int32) → Int32 → Int32 → Int32 → Int32 → Int32 → Int32 → Int32 → Nat → (Nat → Int32) → (Nat → Int32) → (Nat → Int32) → (Nat → Int32) → (Nat → Int32) → (Nat → Int32) → (Nat → Int64) → (Nat → Int64) → (Nat → Int32) → (Nat → Int32) → (Nat → Int64) → (Nat → Int64) → (Nat → Int32) → Prop} (a0 : 0 ≤ v_one_count.toInt) (a1 : v_one_count.toInt ≤ 60) (a2 : 0 ≤ v_other_count.toInt) (a3 : v_other_count.toInt ≤ 60) (a4 : 0 ≤ v_other_positionCount.toInt) (a5 : v_other_positionCount.toInt ≤ 60) (a6 : 0 ≤ v_other_width.toInt) (a7 : v_other_width.toInt ≤ 256) (a8 : 0 ≤ v_other_program_count.toInt) (a9 : v_other_program_count.toInt ≤ 512) (a10 : 0 ≤ a1_count.toInt) (a11 : a1_count.toInt ≤ 256) (a12 : 0 ≤ a1_ranges.toInt) (a13 : a1_ranges.toInt ≤ 512) (a14 : 0 ≤ a2_count.toInt) (a15 : a2_count.toInt ≤ 256) (a16 : 0 ≤ a2_ranges.toInt) (a17 : a2_ranges.toInt ≤ 512) (b0 : rp (fun k v => -1 ≤ v ∧ v ≤ 255) a1_last 0 a1_count.toInt) (b1 : rp (fun k v => k < v ∧ v ≤ 256) a1_end 0 a1_count.toInt) (b2 : rp (fun k v => v < k ∧ -1 ≤ v) a1_before 0 a1_count.toInt) (b3 : rp (fun k v => -1 ≤ v ∧ v ≤ 255) a2_last 0 a2_count.toInt) (b4 : rp (fun k v => k < v ∧ v ≤ 256) a2_end 0 a2_count.toInt) (b5 : rp (fun k v => v < k ∧ -1 ≤ v) a2_before 0 a2_count.toInt) (hq : ∀ (r : Int32) (ov_alphabet_count : Int32) (ov_alphabet_begins : Nat → Int32) (ov_one_count : Int32) (ov_one_positionCount : Int32) (ov_one_stamp : Int32) (ov_one_stackCount : Int32) (ov_one_width : Int32) (ov_one_program_start : Int32) (ov_one_program_count : Int32) (ov_one_program_kinds : Nat → Int32) (ov_one_program_subjects : Nat → Int32) (ov_one_program_nexts : Nat → Int32) (ov_one_program_others : Nat → Int32) (ov_one_positionOf : Nat → Int32) (ov_one_pcOf : Nat → Int32) (ov_one_follow : Nat → Int64) (ov_one_takers : Nat → Int64) (ov_one_seen : Nat → Int32) (ov_one_stack : Nat → Int32) (ov_one_states : Nat → Int64) (ov_one_ahead : Nat → Int64) (ov_one_goes : Nat → Int32) (ov_other_count : Int32) (ov_other_positionCount : Int32) (ov_other_stamp : Int32) (ov_other_stackCount : Int32) (ov_other_width : Int32) (ov_other_program_start : Int32) (ov_other_program_count : Int32) (oh68 : Nat) (ov_other_program_kinds : Nat → Int32) (ov_other_program_subjects : Nat → Int32) (ov_other_program_nexts : Nat → Int32) (ov_other_program_others : Nat → Int32) (ov_other_positionOf : Nat → Int32) (ov_other_pcOf : Nat → Int32) (ov_other_follow : Nat → Int64) (ov_other_takers : Nat → Int64) (ov_other_seen : Nat → Int32) (ov_other_stack : Nat → Int32) (ov_other_states : Nat → Int64) (ov_other_ahead : Nat → Int64) (ov_other_goes : Nat → Int32), 0 ≤ ov_alphabet_count.toInt + 1 → 0 ≤ ov_alphabet_count.toInt → ov_alphabet_count.toInt ≤ 256 → 1 ≤ ov_alphabet_count.toInt → 0 ≤ ov_one_program_count.toInt → ov_one_program_count.toInt ≤ 512 → ((ov_one_width.toInt = 256 ∧ 256 ≤ ov_alphabet_count.toInt) ∨ (ov_one_width.toInt = ov_alphabet_count.toInt ∧ ov_alphabet_count.toInt ≤ 256)) → 0 ≤ ov_one_positionCount.toInt + 1 → 0 ≤ ov_one_positionCount.toInt → ov_one_positionCount.toInt ≤ 60 → ov_one_positionCount.toInt ≤ 61 → ov_one_positionCount.toInt ≤ ov_one_program_count.toInt → ov_one_positionCount.toInt ≤ ov_one_program_count.toInt + 1 → 0 ≤ ov_one_width.toInt → ov_one_width.toInt ≤ 256 → 0 ≤ ov_one_stackCount.toInt + 1 → 0 ≤ ov_one_stackCount.toInt → 0 ≤ ov_one_count.toInt → 0 ≤ ov_one_count.toInt + 1 → 1 ≤ ov_one_count.toInt → ov_one_count.toInt ≤ 60 → ov_one_count.toInt ≤ 61 → 0 ≤ r.toInt → r.toInt ≤ 1 → 0 ≤ ov_other_count.toInt → ov_other_count.toInt ≤ 60 → 0 ≤ ov_other_positionCount.toInt → ov_other_positionCount.toInt ≤ 60 → 0 ≤ ov_other_width.toInt → ov_other_width.toInt ≤ 256 → 0 ≤ ov_other_program_count.toInt → ov_other_program_count.toInt ≤ 512 → Q r ov_alphabet_count ov_alphabet_begins ov_one_count ov_one_positionCount ov_one_stamp ov_one_stackCount ov_one_width ov_one_program_start ov_one_program_count ov_one_program_kinds ov_one_program_subjects ov_one_program_nexts ov_one_program_others ov_one_positionOf ov_one_pcOf ov_one_follow ov_one_takers ov_one_seen ov_one_stack ov_one_states ov_one_ahead ov_one_goes ov_other_count ov_other_positionCount ov_other_stamp ov_other_stackCount ov_other_width ov_other_program_start ov_other_program_count oh68 ov_other_program_kinds ov_other_program_subjects ov_other_program_nexts ov_other_program_others ov_other_positionOf ov_other_pcOf ov_other_follow ov_other_takers ov_other_seen ov_other_stack ov_other_states ov_other_ahead ov_other_goes) : w_X8_make_v3 v_alphabet_begins v_one_count v_one_stamp v_one_stackCount v_one_program_start v_one_program_kinds v_one_program_subjects v_one_program_nexts v_one_program_others v_one_positionOf v_one_pcOf v_one_follow v_one_takers v_one_seen v_one_stack v_one_states v_one_ahead v_one_goes v_other_count v_other_positionCount v_other_stamp v_other_stackCount v_other_width v_other_program_start v_other_program_count v_other_program_kinds v_other_program_subjects v_other_program_nexts v_other_program_others v_other_positionOf v_other_pcOf v_other_follow v_other_takers v_other_seen v_other_stack v_other_states v_other_ahead v_other_goes a1_there a1_count a1_captures a1_ranges a1_sort a1_end a1_before a1_last a1_parts a1_value a1_low a1_high a1_withinCase a1_rangeBegin a1_rangeEnd a2_there a2_count a2_captures a2_ranges a2_sort a2_end a2_before a2_last a2_parts a2_value a2_low a2_high a2_withinCase a2_rangeBegin a2_rangeEnd h68 h2 Q := by
  have q_t : (bz true).toInt = 1 := rfl
  have q_f : (bz false).toInt = 0 := rfl
  have q_0 : (0 : Int32).toInt = 0 := rfl
  have q_1 : (1 : Int32).toInt = 1 := rfl
  unfold w_X8_make_v3
  refine ok_X0_gather_v2 (by omega) (by omega) (by omega) (by omega) (by omega) (by omega) (by omega) (by omega) (fun r6_0 r6_1 f501 f502 f503 f504 => ?_)
  refine ok_X9_make_v1 (by omega) (by omega) (by omega) (by omega) (by omega) (by omega) (by omega) (by omega) (rp_mono b0 (by omega) (by omega)) (rp_mono b1 (by omega) (by omega)) (rp_mono b2 (by omega) (by omega)) (fun r18 r18_0 r18_1 r18_2 r18_3 r18_4 r18_5 r18_6 r18_7 r18_8 r18_9 r18_10 r18_11 r18_12 r18_13 r18_14 r18_15 r18_16 r18_17 r18_18 r18_19 f505 f506 f507 f508 f509 f510 f511 f512 f513 f514 f515 f516 f517 f518 f519 f520 f521 f522 f523 f524 f525 f526 f527 f528 f529 f530 f531 f532 f533 f534 f535 f536 => ?_)
  refine ⟨fun c100021 => ?_, fun c100021 => ?_⟩
  · have f537 : r18.toInt = 0 := i_eq (a := r18.toInt) (b := 0) rfl rfl c100021
    exact hq 0 r6_0 r6_1 r18_0 r18_1 r18_2 r18_3 r18_4 r18_5 r18_6 r18_7 r18_8 r18_9 r18_10 r18_11 r18_12 r18_13 r18_14 r18_15 r18_16 r18_17 r18_18 r18_19 v_other_count v_other_positionCount v_other_stamp v_other_stackCount v_other_width v_other_program_start v_other_program_count h68 v_other_program_kinds v_other_program_subjects v_other_program_nexts v_other_program_others v_other_positionOf v_other_pcOf v_other_follow v_other_takers v_other_seen v_other_stack v_other_states v_other_ahead v_other_goes (by omega) (by omega) (by omega) (by omega) (by omega) (by omega) (by omega) (by omega) (by omega) (by omega) (by omega) (by omega) (by omega) (by omega) (by omega) (by omega) (by omega) (by omega) (by omega) (by omega) (by omega) (by omega) (by omega) (by omega) (by omega) (by omega) (by omega) (by omega) (by omega) (by omega) (by omega) (by omega)
  · have f538 : r18.toInt ≠ 0 := i_ne (a := r18.toInt) (b := 0) rfl rfl c100021
    refine ok_X9_make_v1 (by omega) (by omega) (by omega) (by omega) (by omega) (by omega) (by omega) (by omega) (rp_mono b3 (by omega) (by omega)) (rp_mono b4 (by omega) (by omega)) (rp_mono b5 (by omega) (by omega)) (fun r100037 r100037_0 r100037_1 r100037_2 r100037_3 r100037_4 r100037_5 r100037_6 r100037_7 r100037_8 r100037_9 r100037_10 r100037_11 r100037_12 r100037_13 r100037_14 r100037_15 r100037_16 r100037_17 r100037_18 r100037_19 f539 f540 f541 f542 f543 f544 f545 f546 f547 f548 f549 f550 f551 f552 f553 f554 f555 f556 f557 f558 f559 f560 f561 f562 f563 f564 f565 f566 f567 f568 f569 f570 => ?_)
    have j_200048 : ∀ (s0_200048 : Int32), ((s0_200048.toInt = 0 ∧ r100037.toInt = 0) ∨ (s0_200048.toInt = 1)) → w_X8_make_v3_200048 h2 Q s0_200048 r6_0 r6_1 r18_0 r18_1 r18_2 r18_3 r18_4 r18_5 r18_6 r18_7 r18_8 r18_9 r18_10 r18_11 r18_12 r18_13 r18_14 r18_15 r18_16 r18_17 r18_18 r18_19 r100037_0 r100037_1 r100037_2 r100037_3 r100037_4 r100037_5 r100037_6 r100037_7 r100037_8 r100037_9 r100037_10 r100037_11 r100037_12 r100037_13 r100037_14 r100037_15 r100037_16 r100037_17 r100037_18 r100037_19 := by
      intro s0_200048 f571
      unfold w_X8_make_v3_200048
      refine ⟨i_01 (by omega) (by omega), ?_⟩
      exact hq s0_200048 r6_0 r6_1 r18_0 r18_1 r18_2 r18_3 r18_4 r18_5 r18_6 r18_7 r18_8 r18_9 r18_10 r18_11 r18_12 r18_13 r18_14 r18_15 r18_16 r18_17 r18_18 r18_19 r100037_0 r100037_1 r100037_2 r100037_3 r100037_4 r100037_5 r100037_6 h2 r100037_7 r100037_8 r100037_9 r100037_10 r100037_11 r100037_12 r100037_13 r100037_14 r100037_15 r100037_16 r100037_17 r100037_18 r100037_19 (by omega) (by omega) (by omega) (by omega) (by omega) (by omega) (by omega) (by omega) (by omega) (by omega) (by omega) (by omega) (by omega) (by omega) (by omega) (by omega) (by omega) (by omega) (by omega) (by omega) (by omega) (by omega) (by omega) (by omega) (by omega) (by omega) (by omega) (by omega) (by omega) (by omega) (by omega) (by omega)
    refine ⟨fun c200040 => ?_, fun c200040 => ?_⟩
    · have f572 : r100037.toInt = 0 := i_eq (a := r100037.toInt) (b := 0) rfl rfl c200040
      exact j_200048 0 (by omega)
    · have f573 : r100037.toInt ≠ 0 := i_ne (a := r100037.toInt) (b := 0) rfl rfl c200040
      exact j_200048 1 (by omega)
set_option maxHeartbeats 4000000 in
theorem ok_X11_makeTables_v2 {v_sets_alphabet_count : Int32} {v_sets_alphabet_begins : Nat → Int32} {v_sets_one_count : Int32} {v_sets_one_positionCount : Int32} {v_sets_one_stamp : Int32} {v_sets_one_stackCount : Int32} {v_sets_one_width : Int32} {v_sets_one_program_start : Int32} {v_sets_one_program_count : Int32} {v_sets_one_program_kinds : Nat → Int32} {v_sets_one_program_subjects : Nat → Int32} {v_sets_one_program_nexts : Nat → Int32} {v_sets_one_program_others : Nat → Int32} {v_sets_one_positionOf : Nat → Int32} {v_sets_one_pcOf : Nat → Int32} {v_sets_one_follow : Nat → Int64} {v_sets_one_takers : Nat → Int64} {v_sets_one_seen : Nat → Int32} {v_sets_one_stack : Nat → Int32} {v_sets_one_states : Nat → Int64} {v_sets_one_ahead : Nat → Int64} {v_sets_one_goes : Nat → Int32} {v_sets_other_count : Int32} {v_sets_other_positionCount : Int32} {v_sets_other_stamp : Int32} {v_sets_other_stackCount : Int32} {v_sets_other_width : Int32} {v_sets_other_program_start : Int32} {v_sets_other_program_count : Int32} {v_sets_other_program_kinds : Nat → Int32} {v_sets_other_program_subjects : Nat → Int32} {v_sets_other_program_nexts : Nat → Int32} {v_sets_other_program_others : Nat → Int32} {v_sets_other_positionOf : Nat → Int32} {v_sets_other_pcOf : Nat → Int32} {v_sets_other_follow : Nat → Int64} {v_sets_other_takers : Nat → Int64} {v_sets_other_seen : Nat → Int32} {v_sets_other_stack : Nat → Int32} {v_sets_other_states : Nat → Int64} {v_sets_other_ahead : Nat → Int64} {v_sets_other_goes : Nat → Int32} {a1_there : Bool} {a1_count : Int32} {a1_captures : Int32} {a1_ranges : Int32} {a1_sort : Nat → Int32} {a1_end : Nat → Int32} {a1_before : Nat → Int32} {a1_last : Nat → Int32} {a1_parts : Nat → Int32} {a1_value : Nat → Int32} {a1_low : Nat → Int32} {a1_high : Nat → Int32} {a1_size : Nat → Int32} {a1_positions : Nat → Int32} {a1_mayBeEmpty : Nat → Bool} {a1_withinCase : Nat → Bool} {a1_rangeBegin : Nat → Int32} {a1_rangeEnd : Nat → Int32} {a2_there : Bool} {a2_count : Int32} {a2_captures : Int32} {a2_ranges : Int32} {a2_sort : Nat → Int32} {a2_end : Nat → Int32} {a2_before : Nat → Int32} {a2_last : Nat → Int32} {a2_parts : Nat → Int32} {a2_value : Nat → Int32} {a2_low : Nat → Int32} {a2_high : Nat → Int32} {a2_size : Nat → Int32} {a2_positions : Nat → Int32} {a2_mayBeEmpty : Nat → Bool} {a2_withinCase : Nat → Bool} {a2_rangeBegin : Nat → Int32} {a2_rangeEnd : Nat → Int32} {h82 : Nat} {h86 : Nat} {h1 : Nat} {h2 : Nat} {Q : Int32 → Int32 → (Nat → Int32) → Int32 → Int32 → Int32 → Int32 → Int32 → Int32 → Int32 → Nat → (Nat → Int32) → (Nat → Int32) → (Nat → Int32) → (Nat → Int32) → (Nat → Int32) → (Nat → Int32) → (Nat → Int64) → (Nat → Int64) → (Nat → Int32) → (Nat → Int32) → (Nat → Int64) → (Nat → Int64) → (Nat → Int32) → Int32 → Int32 → Int32 → Int32 → Int32 → Int32 → Int32 → Nat → (Nat → Int32) → (Nat → Int32) → (Nat → Int32) → (Nat → Int32) → (Nat → Int32) → (Nat → Int32) → (Nat → Int64) → (Nat → Int64) → (Nat → Int32) → (Nat → Int32) → (Nat → Int64) → (Nat → Int64) → (Nat → Int32) → Prop} (a0 : 0 ≤ v_sets_alphabet_count.toInt) (a1 : v_sets_alphabet_count.toInt ≤ 256) (a2 : 0 ≤ v_sets_one_count.toInt) (a3 : v_sets_one_count.toInt ≤ 60) (a4 : 0 ≤ v_sets_one_positionCount.toInt) (a5 : v_sets_one_positionCount.toInt ≤ 60) (a6 : 0 ≤ v_sets_one_width.toInt) (a7 : v_sets_one_width.toInt ≤ 256) (a8 : 0 ≤ v_sets_one_program_count.toInt) (a9 : v_sets_one_program_count.toInt ≤ 512) (a10 : 0 ≤ v_sets_other_count.toInt) (a11 : v_sets_other_count.toInt ≤ 60) (a12 : 0 ≤ v_sets_other_positionCount.toInt) (a13 : v_sets_other_positionCount.toInt ≤ 60) (a14 : 0 ≤ v_sets_other_width.toInt) (a15 : v_sets_other_width.toInt ≤ 256) (a16 : 0 ≤ v_sets_other_program_count.toInt) (a17 : v_sets_other_program_count.toInt ≤ 512) (a18 : 0 ≤ a1_count.toInt) (a19 : a1_count.toInt ≤ 256) (a20 : 0 ≤ a1_ranges.toInt) (a21 : a1_ranges.toInt ≤ 512) (a22 : 0 ≤ a2_count.toInt) (a23 : a2_count.toInt ≤ 256) (a24 : 0 ≤ a2_ranges.toInt) (a25 : a2_ranges.toInt ≤ 512) (b0 : rp (fun k v => -1 ≤ v ∧ v ≤ 255) a1_last 0 a1_count.toInt) (b1 : rp (fun k v => k < v ∧ v ≤ 256) a1_end 0 a1_count.toInt) (b2 : rp (fun k v => v < k ∧ -1 ≤ v) a1_before 0 a1_count.toInt) (b3 : rp (fun k v => -1 ≤ v ∧ v ≤ 255) a2_last 0 a2_count.toInt) (b4 : rp (fun k v => k < v ∧ v ≤ 256) a2_end 0 a2_count.toInt) (b5 : rp (fun k v => v < k ∧ -1 ≤ v) a2_before 0 a2_count.toInt) (hq : ∀ (r : Int32) (ov_sets_alphabet_count : Int32) (ov_sets_alphabet_begins : Nat → Int32) (ov_sets_one_count : Int32) (ov_sets_one_positionCount : Int32) (ov_sets_one_stamp : Int32) (ov_sets_one_stackCount : Int32) (ov_sets_one_width : Int32) (ov_sets_one_program_start : Int32) (ov_sets_one_program_count : Int32) (oh82 : Nat) (ov_sets_one_program_kinds : Nat → Int32) (ov_sets_one_program_subjects : Nat → Int32) (ov_sets_one_program_nexts : Nat → Int32) (ov_sets_one_program_others : Nat → Int32) (ov_sets_one_positionOf : Nat → Int32) (ov_sets_one_pcOf : Nat → Int32) (ov_sets_one_follow : Nat → Int64) (ov_sets_one_takers : Nat → Int64) (ov_sets_one_seen : Nat → Int32) (ov_sets_one_stack : Nat → Int32) (ov_sets_one_states : Nat → Int64) (ov_sets_one_ahead : Nat → Int64) (ov_sets_one_goes : Nat → Int32) (ov_sets_other_count : Int32) (ov_sets_other_positionCount : Int32) (ov_sets_other_stamp : Int32) (ov_sets_other_stackCount : Int32) (ov_sets_other_width : Int32) (ov_sets_other_program_start : Int32) (ov_sets_other_program_count : Int32) (oh86 : Nat) (ov_sets_other_program_kinds : Nat → Int32) (ov_sets_other_program_subjects : Nat → Int32) (ov_sets_other_program_nexts : Nat → Int32) (ov_sets_other_program_others : Nat → Int32) (ov_sets_other_positionOf : Nat → Int32) (ov_sets_other_pcOf : Nat → Int32) (ov_sets_other_follow : Nat → Int64) (ov_sets_other_takers : Nat → Int64) (ov_sets_other_seen : Nat → Int32) (ov_sets_other_stack : Nat → Int32) (ov_sets_other_states : Nat → Int64) (ov_sets_other_ahead : Nat → Int64) (ov_sets_other_goes : Nat → Int32), 0 ≤ r.toInt + 7 → r.toInt ≤ 0 → 0 ≤ ov_sets_alphabet_count.toInt → ov_sets_alphabet_count.toInt ≤ 256 → 0 ≤ ov_sets_one_count.toInt → ov_sets_one_count.toInt ≤ 60 → 0 ≤ ov_sets_one_positionCount.toInt → ov_sets_one_positionCount.toInt ≤ 60 → 0 ≤ ov_sets_one_width.toInt → ov_sets_one_width.toInt ≤ 256 → 0 ≤ ov_sets_one_program_count.toInt → ov_sets_one_program_count.toInt ≤ 512 → 0 ≤ ov_sets_other_count.toInt → ov_sets_other_count.toInt ≤ 60 → 0 ≤ ov_sets_other_positionCount.toInt → ov_sets_other_positionCount.toInt ≤ 60 → 0 ≤ ov_sets_other_width.toInt → ov_sets_other_width.toInt ≤ 256 → 0 ≤ ov_sets_other_program_count.toInt → ov_sets_other_program_count.toInt ≤ 512 → Q r ov_sets_alphabet_count ov_sets_alphabet_begins ov_sets_one_count ov_sets_one_positionCount ov_sets_one_stamp ov_sets_one_stackCount ov_sets_one_width ov_sets_one_program_start ov_sets_one_program_count oh82 ov_sets_one_program_kinds ov_sets_one_program_subjects ov_sets_one_program_nexts ov_sets_one_program_others ov_sets_one_positionOf ov_sets_one_pcOf ov_sets_one_follow ov_sets_one_takers ov_sets_one_seen ov_sets_one_stack ov_sets_one_states ov_sets_one_ahead ov_sets_one_goes ov_sets_other_count ov_sets_other_positionCount ov_sets_other_stamp ov_sets_other_stackCount ov_sets_other_width ov_sets_other_program_start ov_sets_other_program_count oh86 ov_sets_other_program_kinds ov_sets_other_program_subjects ov_sets_other_program_nexts ov_sets_other_program_others ov_sets_other_positionOf ov_sets_other_pcOf ov_sets_other_follow ov_sets_other_takers ov_sets_other_seen ov_sets_other_stack ov_sets_other_states ov_sets_other_ahead ov_sets_other_goes) : w_X11_makeTables_v2 v_sets_alphabet_count v_sets_alphabet_begins v_sets_one_count v_sets_one_positionCount v_sets_one_stamp v_sets_one_stackCount v_sets_one_width v_sets_one_program_start v_sets_one_program_count v_sets_one_program_kinds v_sets_one_program_subjects v_sets_one_program_nexts v_sets_one_program_others v_sets_one_positionOf v_sets_one_pcOf v_sets_one_follow v_sets_one_takers v_sets_one_seen v_sets_one_stack v_sets_one_states v_sets_one_ahead v_sets_one_goes v_sets_other_count v_sets_other_positionCount v_sets_other_stamp v_sets_other_stackCount v_sets_other_width v_sets_other_program_start v_sets_other_program_count v_sets_other_program_kinds v_sets_other_program_subjects v_sets_other_program_nexts v_sets_other_program_others v_sets_other_positionOf v_sets_other_pcOf v_sets_other_follow v_sets_other_takers v_sets_other_seen v_sets_other_stack v_sets_other_states v_sets_other_ahead v_sets_other_goes a1_there a1_count a1_captures a1_ranges a1_sort a1_end a1_before a1_last a1_parts a1_value a1_low a1_high a1_size a1_positions a1_mayBeEmpty a1_withinCase a1_rangeBegin a1_rangeEnd a2_there a2_count a2_captures a2_ranges a2_sort a2_end a2_before a2_last a2_parts a2_value a2_low a2_high a2_size a2_positions a2_mayBeEmpty a2_withinCase a2_rangeBegin a2_rangeEnd h82 h86 h1 h2 Q := by
  have q_t : (bz true).toInt = 1 := rfl
  have q_f : (bz false).toInt = 0 := rfl
  have q_m7 : ((-7) : Int32).toInt = (-7) := rfl
  have q_m6 : ((-6) : Int32).toInt = (-6) := rfl
  have q_0 : (0 : Int32).toInt = 0 := rfl
  have q_2 : (2 : Int32).toInt = 2 := rfl
  unfold w_X11_makeTables_v2
  refine ok_X10_isTakenBy (by omega) (by omega) (rp_mono b1 (by omega) (by omega)) (fun r2 f501 => ?_)
  have j_20 : w_X11_makeTables_v2_20 h82 Q v_sets_alphabet_count v_sets_alphabet_begins v_sets_one_count v_sets_one_positionCount v_sets_one_stamp v_sets_one_stackCount v_sets_one_width v_sets_one_program_start v_sets_one_program_count v_sets_one_program_kinds v_sets_one_program_subjects v_sets_one_program_nexts v_sets_one_program_others v_sets_one_positionOf v_sets_one_pcOf v_sets_one_follow v_sets_one_takers v_sets_one_seen v_sets_one_stack v_sets_one_states v_sets_one_ahead v_sets_one_goes v_sets_other_count v_sets_other_positionCount v_sets_other_stamp v_sets_other_stackCount v_sets_other_width v_sets_other_program_start v_sets_other_program_count h86 v_sets_other_program_kinds v_sets_other_program_subjects v_sets_other_program_nexts v_sets_other_program_others v_sets_other_positionOf v_sets_other_pcOf v_sets_other_follow v_sets_other_takers v_sets_other_seen v_sets_other_stack v_sets_other_states v_sets_other_ahead v_sets_other_goes := by
    unfold w_X11_makeTables_v2_20
    exact hq (-6) v_sets_alphabet_count v_sets_alphabet_begins v_sets_one_count v_sets_one_positionCount v_sets_one_stamp v_sets_one_stackCount v_sets_one_width v_sets_one_program_start v_sets_one_program_count h82 v_sets_one_program_kinds v_sets_one_program_subjects v_sets_one_program_nexts v_sets_one_program_others v_sets_one_positionOf v_sets_one_pcOf v_sets_one_follow v_sets_one_takers v_sets_one_seen v_sets_one_stack v_sets_one_states v_sets_one_ahead v_sets_one_goes v_sets_other_count v_sets_other_positionCount v_sets_other_stamp v_sets_other_stackCount v_sets_other_width v_sets_other_program_start v_sets_other_program_count h86 v_sets_other_program_kinds v_sets_other_program_subjects v_sets_other_program_nexts v_sets_other_program_others v_sets_other_positionOf v_sets_other_pcOf v_sets_other_follow v_sets_other_takers v_sets_other_seen v_sets_other_stack v_sets_other_states v_sets_other_ahead v_sets_other_goes (by omega) (by omega) (by omega) (by omega) (by omega) (by omega) (by omega) (by omega) (by omega) (by omega) (by omega) (by omega) (by omega) (by omega) (by omega) (by omega) (by omega) (by omega) (by omega) (by omega)
  refine ⟨fun c5 => ?_, fun c5 => ?_⟩
  · have f502 : r2.toInt = 0 := i_eq (a := r2.toInt) (b := 0) rfl rfl c5
    exact j_20  
  · have f503 : r2.toInt ≠ 0 := i_ne (a := r2.toInt) (b := 0) rfl rfl c5
    refine ok_X10_isTakenBy (by omega) (by omega) (rp_mono b4 (by omega) (by omega)) (fun r14 f504 => ?_)
    refine ⟨fun c17 => ?_, fun c17 => ?_⟩
    · have f505 : r14.toInt ≠ 0 := i_ne (a := r14.toInt) (b := 0) rfl rfl c17
      refine ok_X10_isTooLargeFor (by omega) (by omega) (fun r25 f506 f507 f508 => ?_)
      have j_43 : w_X11_makeTables_v2_43 h82 Q v_sets_alphabet_count v_sets_alphabet_begins v_sets_one_count v_sets_one_positionCount v_sets_one_stamp v_sets_one_stackCount v_sets_one_width v_sets_one_program_start v_sets_one_program_count v_sets_one_program_kinds v_sets_one_program_subjects v_sets_one_program_nexts v_sets_one_program_others v_sets_one_positionOf v_sets_one_pcOf v_sets_one_follow v_sets_one_takers v_sets_one_seen v_sets_one_stack v_sets_one_states v_sets_one_ahead v_sets_one_goes v_sets_other_count v_sets_other_positionCount v_sets_other_stamp v_sets_other_stackCount v_sets_other_width v_sets_other_program_start v_sets_other_program_count h86 v_sets_other_program_kinds v_sets_other_program_subjects v_sets_other_program_nexts v_sets_other_program_others v_sets_other_positionOf v_sets_other_pcOf v_sets_other_follow v_sets_other_takers v_sets_other_seen v_sets_other_stack v_sets_other_states v_sets_other_ahead v_sets_other_goes := by
        unfold w_X11_makeTables_v2_43
        exact hq (-7) v_sets_alphabet_count v_sets_alphabet_begins v_sets_one_count v_sets_one_positionCount v_sets_one_stamp v_sets_one_stackCount v_sets_one_width v_sets_one_program_start v_sets_one_program_count h82 v_sets_one_program_kinds v_sets_one_program_subjects v_sets_one_program_nexts v_sets_one_program_others v_sets_one_positionOf v_sets_one_pcOf v_sets_one_follow v_sets_one_takers v_sets_one_seen v_sets_one_stack v_sets_one_states v_sets_one_ahead v_sets_one_goes v_sets_other_count v_sets_other_positionCount v_sets_other_stamp v_sets_other_stackCount v_sets_other_width v_sets_other_program_start v_sets_other_program_count h86 v_sets_other_program_kinds v_sets_other_program_subjects v_sets_other_program_nexts v_sets_other_program_others v_sets_other_positionOf v_sets_other_pcOf v_sets_other_follow v_sets_other_takers v_sets_other_seen v_sets_other_stack v_sets_other_states v_sets_other_ahead v_sets_other_goes (by omega) (by omega) (by omega) (by omega) (by omega) (by omega) (by omega) (by omega) (by omega) (by omega) (by omega) (by omega) (by omega) (by omega) (by omega) (by omega) (by omega) (by omega) (by omega) (by omega)
      refine ⟨fun c28 => ?_, fun c28 => ?_⟩
      · have f509 : r25.toInt ≠ 0 := i_ne (a := r25.toInt) (b := 0) rfl rfl c28
        exact j_43  
      · have f510 : r25.toInt = 0 := i_eq (a := r25.toInt) (b := 0) rfl rfl c28
        refine ok_X10_isTooLargeFor (by omega) (by omega) (fun r37 f511 f512 f513 => ?_)
        refine ⟨fun c40 => ?_, fun c40 => ?_⟩
        · have f514 : r37.toInt = 0 := i_eq (a := r37.toInt) (b := 0) rfl rfl c40
          refine ok_X8_make_v3 (by omega) (by omega) (by omega) (by omega) (by omega) (by omega) (by omega) (by omega) (by omega) (by omega) (by omega) (by omega) (by omega) (by omega) (by omega) (by omega) (by omega) (by omega) (rp_mono b0 (by omega) (by omega)) (rp_mono b1 (by omega) (by omega)) (rp_mono b2 (by omega) (by omega)) (rp_mono b3 (by omega) (by omega)) (rp_mono b4 (by omega) (by omega)) (rp_mono b5 (by omega) (by omega)) (fun r52 r52_0 r52_1 r52_2 r52_3 r52_4 r52_5 r52_6 r52_7 r52_8 r52_9 r52_10 r52_11 r52_12 r52_13 r52_14 r52_15 r52_16 r52_17 r52_18 r52_19 r52_20 r52_21 r52_22 r52_23 r52_24 r52_25 r52_26 r52_27 r52_28 r52_29 r52_30 r52_31 r52_32 r52_33 r52_34 r52_35 r52_36 r52_37 r52_38 r52_39 r52_40 r52_41 r52_42 f515 f516 f517 f518 f519 f520 f521 f522 f523 f524 f525 f526 f527 f528 f529 f530 f531 f532 f533 f534 f535 f536 f537 f538 f539 f540 f541 f542 f543 f544 f545 f546 => ?_)
          have j_100064 : ∀ (s0_100064 : Int32), ((s0_100064.toInt + 7 = 0 ∧ r52.toInt = 0) ∨ (s0_100064.toInt = 0)) → w_X11_makeTables_v2_100064 h1 Q s0_100064 r52_0 r52_1 r52_2 r52_3 r52_4 r52_5 r52_6 r52_7 r52_8 r52_9 r52_10 r52_11 r52_12 r52_13 r52_14 r52_15 r52_16 r52_17 r52_18 r52_19 r52_20 r52_21 r52_22 r52_23 r52_24 r52_25 r52_26 r52_27 r52_28 r52_29 r52_30 r52_31 r52_32 r52_33 r52_34 r52_35 r52_36 r52_37 r52_38 r52_39 r52_40 r52_41 r52_42 := by
            intro s0_100064 f547
            unfold w_X11_makeTables_v2_100064
            exact hq s0_100064 r52_0 r52_1 r52_2 r52_3 r52_4 r52_5 r52_6 r52_7 r52_8 h1 r52_9 r52_10 r52_11 r52_12 r52_13 r52_14 r52_15 r52_16 r52_17 r52_18 r52_19 r52_20 r52_21 r52_22 r52_23 r52_24 r52_25 r52_26 r52_27 r52_28 r52_29 r52_30 r52_31 r52_32 r52_33 r52_34 r52_35 r52_36 r52_37 r52_38 r52_39 r52_40 r52_41 r52_42 (by omega) (by omega) (by omega) (by omega) (by omega) (by omega) (by omega) (by omega) (by omega) (by omega) (by omega) (by omega) (by omega) (by omega) (by omega) (by omega) (by omega) (by omega) (by omega) (by omega)
          refine ⟨fun c100055 => ?_, fun c100055 => ?_⟩
          · have f548 : r52.toInt = 0 := i_eq (a := r52.toInt) (b := 0) rfl rfl c100055
            exact j_100064 (-7) (by omega)
          · have f549 : r52.toInt ≠ 0 := i_ne (a := r52.toInt) (b := 0) rfl rfl c100055
            exact j_100064 0 (by omega)
        · have f550 : r37.toInt ≠ 0 := i_ne (a := r37.toInt) (b := 0) rfl rfl c40
          exact j_43  
    · have f551 : r14.toInt = 0 := i_eq (a := r14.toInt) (b := 0) rfl rfl c17
      exact j_20  
set_option maxHeartbeats 4000000 in
theorem ok_X11_compare {p1 : Int32} {p2 : Int32} {v_latestFinding : Int32} {v_patterns : Nat → Option Nat} {v_sets_onlyInOne : Bool} {v_sets_onlyInOther : Bool} {v_sets_stamp : Int32} {v_sets_pairCount : Int32} {v_sets_parted : Int32} {v_sets_alphabet_count : Int32} {v_sets_alphabet_begins : Nat → Int32} {v_sets_one_count : Int32} {v_sets_one_positionCount : Int32} {v_sets_one_stamp : Int32} {v_sets_one_stackCount : Int32} {v_sets_one_width : Int32} {v_sets_one_program_start : Int32} {v_sets_one_program_count : Int32} {v_sets_one_program_kinds : Nat → Int32} {v_sets_one_program_subjects : Nat → Int32} {v_sets_one_program_nexts : Nat → Int32} {v_sets_one_program_others : Nat → Int32} {v_sets_one_positionOf : Nat → Int32} {v_sets_one_pcOf : Nat → Int32} {v_sets_one_follow : Nat → Int64} {v_sets_one_takers : Nat → Int64} {v_sets_one_seen : Nat → Int32} {v_sets_one_stack : Nat → Int32} {v_sets_one_states : Nat → Int64} {v_sets_one_ahead : Nat → Int64} {v_sets_one_goes : Nat → Int32} {v_sets_other_count : Int32} {v_sets_other_positionCount : Int32} {v_sets_other_stamp : Int32} {v_sets_other_stackCount : Int32} {v_sets_other_width : Int32} {v_sets_other_program_start : Int32} {v_sets_other_program_count : Int32} {v_sets_other_program_kinds : Nat → Int32} {v_sets_other_program_subjects : Nat → Int32} {v_sets_other_program_nexts : Nat → Int32} {v_sets_other_program_others : Nat → Int32} {v_sets_other_positionOf : Nat → Int32} {v_sets_other_pcOf : Nat → Int32} {v_sets_other_follow : Nat → Int64} {v_sets_other_takers : Nat → Int64} {v_sets_other_seen : Nat → Int32} {v_sets_other_stack : Nat → Int32} {v_sets_other_states : Nat → Int64} {v_sets_other_ahead : Nat → Int64} {v_sets_other_goes : Nat → Int32} {v_sets_met : Nat → Int32} {v_sets_pairs : Nat → Int32} {v_sets_cameFrom : Nat → Int32} {v_sets_cameBy : Nat → Int32} {v_patterns_p1_there : Bool} {v_patterns_p1_count : Int32} {v_patterns_p1_captures : Int32} {v_patterns_p1_ranges : Int32} {v_patterns_p1_sort : Nat → Int32} {v_patterns_p1_end : Nat → Int32} {v_patterns_p1_before : Nat → Int32} {v_patterns_p1_last : Nat → Int32} {v_patterns_p1_parts : Nat → Int32} {v_patterns_p1_value : Nat → Int32} {v_patterns_p1_low : Nat → Int32} {v_patterns_p1_high : Nat → Int32} {v_patterns_p1_size : Nat → Int32} {v_patterns_p1_positions : Nat → Int32} {v_patterns_p1_mayBeEmpty : Nat → Bool} {v_patterns_p1_withinCase : Nat → Bool} {v_patterns_p1_rangeBegin : Nat → Int32} {v_patterns_p1_rangeEnd : Nat → Int32} {v_patterns_p2_there : Bool} {v_patterns_p2_count : Int32} {v_patterns_p2_captures : Int32} {v_patterns_p2_ranges : Int32} {v_patterns_p2_sort : Nat → Int32} {v_patterns_p2_end : Nat → Int32} {v_patterns_p2_before : Nat → Int32} {v_patterns_p2_last : Nat → Int32} {v_patterns_p2_parts : Nat → Int32} {v_patterns_p2_value : Nat → Int32} {v_patterns_p2_low : Nat → Int32} {v_patterns_p2_high : Nat → Int32} {v_patterns_p2_size : Nat → Int32} {v_patterns_p2_positions : Nat → Int32} {v_patterns_p2_mayBeEmpty : Nat → Bool} {v_patterns_p2_withinCase : Nat → Bool} {v_patterns_p2_rangeBegin : Nat → Int32} {v_patterns_p2_rangeEnd : Nat → Int32} {h86 : Nat} {h90 : Nat} {h39 : Nat} {h54 : Nat} {Q : Int32 → Int32 → Bool → Bool → Int32 → Int32 → Int32 → Int32 → (Nat → Int32) → Int32 → Int32 → Int32 → Int32 → Int32 → Int32 → Int32 → Nat → (Nat → Int32) → (Nat → Int32) → (Nat → Int32) → (Nat → Int32) → (Nat → Int32) → (Nat → Int32) → (Nat → Int64) → (Nat → Int64) → (Nat → Int32) → (Nat → Int32) → (Nat → Int64) → (Nat → Int64) → (Nat → Int32) → Int32 → Int32 → Int32 → Int32 → Int32 → Int32 → Int32 → Nat → (Nat → Int32) → (Nat → Int32) → (Nat → Int32) → (Nat → Int32) → (Nat → Int32) → (Nat → Int32) → (Nat → Int64) → (Nat → Int64) → (Nat → Int32) → (Nat → Int32) → (Nat → Int64) → (Nat → Int64) → (Nat → Int32) → (Nat → Int32) → (Nat → Int32) → (Nat → Int32) → (Nat → Int32) → Prop} (a0 : 0 ≤ v_sets_pairCount.toInt) (a1 : v_sets_pairCount.toInt ≤ 3600) (a2 : 0 ≤ v_sets_parted.toInt + 1) (a3 : ((v_sets_parted.toInt ≤ 0) ∨ (v_sets_parted.toInt + 1 ≤ v_sets_pairCount.toInt))) (a4 : 0 ≤ v_sets_alphabet_count.toInt) (a5 : v_sets_alphabet_count.toInt ≤ 256) (a6 : 0 ≤ v_sets_one_count.toInt) (a7 : v_sets_one_count.toInt ≤ 60) (a8 : 0 ≤ v_sets_one_positionCount.toInt) (a9 : v_sets_one_positionCount.toInt ≤ 60) (a10 : 0 ≤ v_sets_one_width.toInt) (a11 : v_sets_one_width.toInt ≤ 256) (a12 : 0 ≤ v_sets_one_program_count.toInt) (a13 : v_sets_one_program_count.toInt ≤ 512) (a14 : 0 ≤ v_sets_other_count.toInt) (a15 : v_sets_other_count.toInt ≤ 60) (a16 : 0 ≤ v_sets_other_positionCount.toInt) (a17 : v_sets_other_positionCount.toInt ≤ 60) (a18 : 0 ≤ v_sets_other_width.toInt) (a19 : v_sets_other_width.toInt ≤ 256) (a20 : 0 ≤ v_sets_other_program_count.toInt) (a21 : v_sets_other_program_count.toInt ≤ 512) (a22 : 0 ≤ v_patterns_p1_count.toInt) (a23 : v_patterns_p1_count.toInt ≤ 256) (a24 : 0 ≤ v_patterns_p1_ranges.toInt) (a25 : v_patterns_p1_ranges.toInt ≤ 512) (a26 : 0 ≤ v_patterns_p2_count.toInt) (a27 : v_patterns_p2_count.toInt ≤ 256) (a28 : 0 ≤ v_patterns_p2_ranges.toInt) (a29 : v_patterns_p2_ranges.toInt ≤ 512) (b0 : rp (fun k v => v < k ∧ -1 ≤ v) v_sets_cameFrom 0 v_sets_pairCount.toInt) (b1 : rp (fun k v => -1 ≤ v ∧ v ≤ 255) v_patterns_p1_last 0 v_patterns_p1_count.toInt) (b2 : rp (fun k v => k < v ∧ v ≤ 256) v_patterns_p1_end 0 v_patterns_p1_count.toInt) (b3 : rp (fun k v => v < k ∧ -1 ≤ v) v_patterns_p1_before 0 v_patterns_p1_count.toInt) (b4 : rp (fun k v => -1 ≤ v ∧ v ≤ 255) v_patterns_p2_last 0 v_patterns_p2_count.toInt) (b5 : rp (fun k v => k < v ∧ v ≤ 256) v_patterns_p2_end 0 v_patterns_p2_count.toInt) (b6 : rp (fun k v => v < k ∧ -1 ≤ v) v_patterns_p2_before 0 v_patterns_p2_count.toInt) (v0 : 0 ≤ p1.toInt → p1.toInt < 6 → v_patterns p1.toNatClampNeg = some h39) (v1 : 0 ≤ p2.toInt → p2.toInt < 6 → v_patterns p2.toNatClampNeg = some h54) (hq : ∀ (r : Int32) (ov_latestFinding : Int32) (ov_sets_onlyInOne : Bool) (ov_sets_onlyInOther : Bool) (ov_sets_stamp : Int32) (ov_sets_pairCount : Int32) (ov_sets_parted : Int32) (ov_sets_alphabet_count : Int32) (ov_sets_alphabet_begins : Nat → Int32) (ov_sets_one_count : Int32) (ov_sets_one_positionCount : Int32) (ov_sets_one_stamp : Int32) (ov_sets_one_stackCount : Int32) (ov_sets_one_width : Int32) (ov_sets_one_program_start : Int32) (ov_sets_one_program_count : Int32) (oh86 : Nat) (ov_sets_one_program_kinds : Nat → Int32) (ov_sets_one_program_subjects : Nat → Int32) (ov_sets_one_program_nexts : Nat → Int32) (ov_sets_one_program_others : Nat → Int32) (ov_sets_one_positionOf : Nat → Int32) (ov_sets_one_pcOf : Nat → Int32) (ov_sets_one_follow : Nat → Int64) (ov_sets_one_takers : Nat → Int64) (ov_sets_one_seen : Nat → Int32) (ov_sets_one_stack : Nat → Int32) (ov_sets_one_states : Nat → Int64) (ov_sets_one_ahead : Nat → Int64) (ov_sets_one_goes : Nat → Int32) (ov_sets_other_count : Int32) (ov_sets_other_positionCount : Int32) (ov_sets_other_stamp : Int32) (ov_sets_other_stackCount : Int32) (ov_sets_other_width : Int32) (ov_sets_other_program_start : Int32) (ov_sets_other_program_count : Int32) (oh90 : Nat) (ov_sets_other_program_kinds : Nat → Int32) (ov_sets_other_program_subjects : Nat → Int32) (ov_sets_other_program_nexts : Nat → Int32) (ov_sets_other_program_others : Nat → Int32) (ov_sets_other_positionOf : Nat → Int32) (ov_sets_other_pcOf : Nat → Int32) (ov_sets_other_follow : Nat → Int64) (ov_sets_other_takers : Nat → Int64) (ov_sets_other_seen : Nat → Int32) (ov_sets_other_stack : Nat → Int32) (ov_sets_other_states : Nat → Int64) (ov_sets_other_ahead : Nat → Int64) (ov_sets_other_goes : Nat → Int32) (ov_sets_met : Nat → Int32) (ov_sets_pairs : Nat → Int32) (ov_sets_cameFrom : Nat → Int32) (ov_sets_cameBy : Nat → Int32), 0 ≤ r.toInt + 7 → r.toInt ≤ 3 → 0 ≤ ov_sets_pairCount.toInt → ov_sets_pairCount.toInt ≤ 3799 → 0 ≤ ov_sets_parted.toInt + 1 → ov_sets_parted.toInt ≤ 3799 → 0 ≤ ov_sets_alphabet_count.toInt → ov_sets_alphabet_count.toInt ≤ 256 → 0 ≤ ov_sets_one_count.toInt → ov_sets_one_count.toInt ≤ 60 → 0 ≤ ov_sets_one_positionCount.toInt → ov_sets_one_positionCount.toInt ≤ 60 → 0 ≤ ov_sets_one_width.toInt → ov_sets_one_width.toInt ≤ 256 → 0 ≤ ov_sets_one_program_count.toInt → ov_sets_one_program_count.toInt ≤ 512 → 0 ≤ ov_sets_other_count.toInt → ov_sets_other_count.toInt ≤ 60 → 0 ≤ ov_sets_other_positionCount.toInt → ov_sets_other_positionCount.toInt ≤ 60 → 0 ≤ ov_sets_other_width.toInt → ov_sets_other_width.toInt ≤ 256 → 0 ≤ ov_sets_other_program_count.toInt → ov_sets_other_program_count.toInt ≤ 512 → ov_sets_pairCount.toInt ≤ 3600 → ((ov_sets_parted.toInt ≤ 0) ∨ (ov_sets_parted.toInt + 1 ≤ ov_sets_pairCount.toInt)) → rp (fun k v => v < k ∧ -1 ≤ v) ov_sets_cameFrom 0 ov_sets_pairCount.toInt → rp (fun k v => v < k ∧ -1 ≤ v) ov_sets_cameFrom 0 0 → rp (fun k v => v < k ∧ -1 ≤ v) ov_sets_cameFrom (ov_sets_parted.toInt + 1) 0 → rp (fun k v => v < k ∧ -1 ≤ v) ov_sets_cameFrom (ov_sets_parted.toInt + 1) (ov_sets_parted.toInt + 1) → rp (fun k v => v < k ∧ -1 ≤ v) ov_sets_cameFrom (ov_sets_parted.toInt + 1) ov_sets_pairCount.toInt → Q r ov_latestFinding ov_sets_onlyInOne ov_sets_onlyInOther ov_sets_stamp ov_sets_pairCount ov_sets_parted ov_sets_alphabet_count ov_sets_alphabet_begins ov_sets_one_count ov_sets_one_positionCount ov_sets_one_stamp ov_sets_one_stackCount ov_sets_one_width ov_sets_one_program_start ov_sets_one_program_count oh86 ov_sets_one_program_kinds ov_sets_one_program_subjects ov_sets_one_program_nexts ov_sets_one_program_others ov_sets_one_positionOf ov_sets_one_pcOf ov_sets_one_follow ov_sets_one_takers ov_sets_one_seen ov_sets_one_stack ov_sets_one_states ov_sets_one_ahead ov_sets_one_goes ov_sets_other_count ov_sets_other_positionCount ov_sets_other_stamp ov_sets_other_stackCount ov_sets_other_width ov_sets_other_program_start ov_sets_other_program_count oh90 ov_sets_other_program_kinds ov_sets_other_program_subjects ov_sets_other_program_nexts ov_sets_other_program_others ov_sets_other_positionOf ov_sets_other_pcOf ov_sets_other_follow ov_sets_other_takers ov_sets_other_seen ov_sets_other_stack ov_sets_other_states ov_sets_other_ahead ov_sets_other_goes ov_sets_met ov_sets_pairs ov_sets_cameFrom ov_sets_cameBy) : w_X11_compare p1 p2 v_latestFinding v_patterns v_sets_onlyInOne v_sets_onlyInOther v_sets_stamp v_sets_pairCount v_sets_parted v_sets_alphabet_count v_sets_alphabet_begins v_sets_one_count v_sets_one_positionCount v_sets_one_stamp v_sets_one_stackCount v_sets_one_width v_sets_one_program_start v_sets_one_program_count v_sets_one_program_kinds v_sets_one_program_subjects v_sets_one_program_nexts v_sets_one_program_others v_sets_one_positionOf v_sets_one_pcOf v_sets_one_follow v_sets_one_takers v_sets_one_seen v_sets_one_stack v_sets_one_states v_sets_one_ahead v_sets_one_goes v_sets_other_count v_sets_other_positionCount v_sets_other_stamp v_sets_other_stackCount v_sets_other_width v_sets_other_program_start v_sets_other_program_count v_sets_other_program_kinds v_sets_other_program_subjects v_sets_other_program_nexts v_sets_other_program_others v_sets_other_positionOf v_sets_other_pcOf v_sets_other_follow v_sets_other_takers v_sets_other_seen v_sets_other_stack v_sets_other_states v_sets_other_ahead v_sets_other_goes v_sets_met v_sets_pairs v_sets_cameFrom v_sets_cameBy v_patterns_p1_there v_patterns_p1_count v_patterns_p1_captures v_patterns_p1_ranges v_patterns_p1_sort v_patterns_p1_end v_patterns_p1_before v_patterns_p1_last v_patterns_p1_parts v_patterns_p1_value v_patterns_p1_low v_patterns_p1_high v_patterns_p1_size v_patterns_p1_positions v_patterns_p1_mayBeEmpty v_patterns_p1_withinCase v_patterns_p1_rangeBegin v_patterns_p1_rangeEnd v_patterns_p2_there v_patterns_p2_count v_patterns_p2_captures v_patterns_p2_ranges v_patterns_p2_sort v_patterns_p2_end v_patterns_p2_before v_patterns_p2_last v_patterns_p2_parts v_patterns_p2_value v_patterns_p2_low v_patterns_p2_high v_patterns_p2_size v_patterns_p2_positions v_patterns_p2_mayBeEmpty v_patterns_p2_withinCase v_patterns_p2_rangeBegin v_patterns_p2_rangeEnd h86 h90 h39 h54 Q := by
  have q_t : (bz true).toInt = 1 := rfl
  have q_f : (bz false).toInt = 0 := rfl
  have q_m2 : ((-2) : Int32).toInt = (-2) := rfl
  have q_0 : (0 : Int32).toInt = 0 := rfl
  have q_1 : (1 : Int32).toInt = 1 := rfl
  have q_2 : (2 : Int32).toInt = 2 := rfl
  unfold w_X11_compare
  refine ok_X11_patternIn v0 (fun r2 r2_0 f501 f502 => ?_)
  refine ⟨fun c2 => ?_, fun c2 => ?_⟩
  · have f503 : r2.toInt = 0 := i_eq (a := r2.toInt) (b := 0) rfl rfl c2
    exact hq (-2) r2_0 v_sets_onlyInOne v_sets_onlyInOther v_sets_stamp v_sets_pairCount v_sets_parted v_sets_alphabet_count v_sets_alphabet_begins v_sets_one_count v_sets_one_positionCount v_sets_one_stamp v_sets_one_stackCount v_sets_one_width v_sets_one_program_start v_sets_one_program_count h86 v_sets_one_program_kinds v_sets_one_program_subjects v_sets_one_program_nexts v_sets_one_program_others v_sets_one_positionOf v_sets_one_pcOf v_sets_one_follow v_sets_one_takers v_sets_one_seen v_sets_one_stack v_sets_one_states v_sets_one_ahead v_sets_one_goes v_sets_other_count v_sets_other_positionCount v_sets_other_stamp v_sets_other_stackCount v_sets_other_width v_sets_other_program_start v_sets_other_program_count h90 v_sets_other_program_kinds v_sets_other_program_subjects v_sets_other_program_nexts v_sets_other_program_others v_sets_other_positionOf v_sets_other_pcOf v_sets_other_follow v_sets_other_takers v_sets_other_seen v_sets_other_stack v_sets_other_states v_sets_other_ahead v_sets_other_goes v_sets_met v_sets_pairs v_sets_cameFrom v_sets_cameBy (by omega) (by omega) (by omega) (by omega) (by omega) (by omega) (by omega) (by omega) (by omega) (by omega) (by omega) (by omega) (by omega) (by omega) (by omega) (by omega) (by omega) (by omega) (by omega) (by omega) (by omega) (by omega) (by omega) (by omega) (by omega) (by omega) (rp_mono b0 (by omega) (by omega)) (rp_mono b0 (by omega) (by omega)) (rp_mono b0 (by omega) (by omega)) (rp_nil (by omega)) (rp_mono b0 (by omega) (by omega))
  · have f504 : r2.toInt ≠ 0 := i_ne (a := r2.toInt) (b := 0) rfl rfl c2
    refine ok_X11_patternIn v1 (fun r200016 r200016_0 f505 f506 => ?_)
    refine ⟨fun c200016 => ?_, fun c200016 => ?_⟩
    · have f507 : r200016.toInt = 0 := i_eq (a := r200016.toInt) (b := 0) rfl rfl c200016
      exact hq (-2) r200016_0 v_sets_onlyInOne v_sets_onlyInOther v_sets_stamp v_sets_pairCount v_sets_parted v_sets_alphabet_count v_sets_alphabet_begins v_sets_one_count v_sets_one_positionCount v_sets_one_stamp v_sets_one_stackCount v_sets_one_width v_sets_one_program_start v_sets_one_program_count h86 v_sets_one_program_kinds v_sets_one_program_subjects v_sets_one_program_nexts v_sets_one_program_others v_sets_one_positionOf v_sets_one_pcOf v_sets_one_follow v_sets_one_takers v_sets_one_seen v_sets_one_stack v_sets_one_states v_sets_one_ahead v_sets_one_goes v_sets_other_count v_sets_other_positionCount v_sets_other_stamp v_sets_other_stackCount v_sets_other_width v_sets_other_program_start v_sets_other_program_count h90 v_sets_other_program_kinds v_sets_other_program_subjects v_sets_other_program_nexts v_sets_other_program_others v_sets_other_positionOf v_sets_other_pcOf v_sets_other_follow v_sets_other_takers v_sets_other_seen v_sets_other_stack v_sets_other_states v_sets_other_ahead v_sets_other_goes v_sets_met v_sets_pairs v_sets_cameFrom v_sets_cameBy (by omega) (by omega) (by omega) (by omega) (by omega) (by omega) (by omega) (by omega) (by omega) (by omega) (by omega) (by omega) (by omega) (by omega) (by omega) (by omega) (by omega) (by omega) (by omega) (by omega) (by omega) (by omega) (by omega) (by omega) (by omega) (by omega) (rp_mono b0 (by omega) (by omega)) (rp_mono b0 (by omega) (by omega)) (rp_mono b0 (by omega) (by omega)) (rp_nil (by omega)) (rp_mono b0 (by omega) (by omega))
    · have f508 : r200016.toInt ≠ 0 := i_ne (a := r200016.toInt) (b := 0) rfl rfl c200016
      refine ok_X11_makeTables_v2 (by omega) (by omega) (by omega) (by omega) (by omega) (by omega) (by omega) (by omega) (by omega) (by omega) (by omega) (by omega) (by omega) (by omega) (by omega) (by omega) (by omega) (by omega) (by omega) (by omega) (by omega) (by omega) (by omega) (by omega) (by omega) (by omega) (rp_mono b1 (by omega) (by omega)) (rp_mono b2 (by omega) (by omega)) (rp_mono b3 (by omega) (by omega)) (rp_mono b4 (by omega) (by omega)) (rp_mono b5 (by omega) (by omega)) (rp_mono b6 (by omega) (by omega)) (fun r400037 r400037_0 r400037_1 r400037_2 r400037_3 r400037_4 r400037_5 r400037_6 r400037_7 r400037_8 r400037_9 r400037_10 r400037_11 r400037_12 r400037_13 r400037_14 r400037_15 r400037_16 r400037_17 r400037_18 r400037_19 r400037_20 r400037_21 r400037_22 r400037_23 r400037_24 r400037_25 r400037_26 r400037_27 r400037_28 r400037_29 r400037_30 r400037_31 r400037_32 r400037_33 r400037_34 r400037_35 r400037_36 r400037_37 r400037_38 r400037_39 r400037_40 r400037_41 r400037_42 r400037_43 f509 f510 f511 f512 f513 f514 f515 f516 f517 f518 f519 f520 f521 f522 f523 f524 f525 f526 f527 f528 => ?_)
      refine ⟨fun c400044 => ?_, fun c400044 => ?_⟩
      · have f529 : r400037.toInt = 0 := i_eq (a := r400037.toInt) (b := 0) rfl rfl c400044
        refine ok_X8_walkBoth (by omega) (by omega) (by omega) (by omega) (by omega) (by omega) (by omega) (by omega) (by omega) (by omega) (fun r400054_0 r400054_1 r400054_2 r400054_3 r400054_4 r400054_5 r400054_6 r400054_7 r400054_8 f530 f531 f532 f533 f534 f535 f536 f537 f538 f539 h540 h541 h542 h543 h544 h545 => ?_)
        have f546 : (0 ≤ (bz r400054_0).toInt ∧ (bz r400054_0).toInt ≤ 1) := i_bzr r400054_0
        have j_400072 : ∀ (s0_400072 : Int32), ((s0_400072.toInt = 1 ∧ (bz r400054_0).toInt = 0) ∨ (s0_400072.toInt = 0)) → w_X11_compare_400072 Q s0_400072 r200016_0 r400054_0 r400054_1 r400054_2 r400054_3 r400054_4 r400037_0 r400037_1 r400037_2 r400037_3 r400037_4 r400037_5 r400037_6 r400037_7 r400037_8 r400037_9 r400037_10 r400037_11 r400037_12 r400037_13 r400037_14 r400037_15 r400037_16 r400037_17 r400037_18 r400037_19 r400037_20 r400037_21 r400037_22 r400037_23 r400037_24 r400037_25 r400037_26 r400037_27 r400037_28 r400037_29 r400037_30 r400037_31 r400037_32 r400037_33 r400037_34 r400037_35 r400037_36 r400037_37 r400037_38 r400037_39 r400037_40 r400037_41 r400037_42 r400037_43 r400054_5 r400054_6 r400054_7 r400054_8 := by
          intro s0_400072 f547
          unfold w_X11_compare_400072
          have f548 : (0 ≤ (bz r400054_1).toInt ∧ (bz r400054_1).toInt ≤ 1) := i_bzr r400054_1
          have j_400087 : ∀ (s0_400087 : Int32), ((s0_400087.toInt = 2 ∧ (bz r400054_1).toInt = 0) ∨ (s0_400087.toInt = 0)) → w_X11_compare_400087 Q s0_400087 s0_400072 r200016_0 r400054_0 r400054_1 r400054_2 r400054_3 r400054_4 r400037_0 r400037_1 r400037_2 r400037_3 r400037_4 r400037_5 r400037_6 r400037_7 r400037_8 r400037_9 r400037_10 r400037_11 r400037_12 r400037_13 r400037_14 r400037_15 r400037_16 r400037_17 r400037_18 r400037_19 r400037_20 r400037_21 r400037_22 r400037_23 r400037_24 r400037_25 r400037_26 r400037_27 r400037_28 r400037_29 r400037_30 r400037_31 r400037_32 r400037_33 r400037_34 r400037_35 r400037_36 r400037_37 r400037_38 r400037_39 r400037_40 r400037_41 r400037_42 r400037_43 r400054_5 r400054_6 r400054_7 r400054_8 := by
            intro s0_400087 f549
            unfold w_X11_compare_400087
            intro x400087 ex400087
            have f550 : x400087.toInt = s0_400072.toInt + s0_400087.toInt := i_add (a := s0_400072.toInt) (b := s0_400087.toInt) ex400087 rfl rfl (by omega) (by omega)
            exact hq x400087 r200016_0 r400054_0 r400054_1 r400054_2 r400054_3 r400054_4 r400037_0 r400037_1 r400037_2 r400037_3 r400037_4 r400037_5 r400037_6 r400037_7 r400037_8 r400037_9 r400037_10 r400037_11 r400037_12 r400037_13 r400037_14 r400037_15 r400037_16 r400037_17 r400037_18 r400037_19 r400037_20 r400037_21 r400037_22 r400037_23 r400037_24 r400037_25 r400037_26 r400037_27 r400037_28 r400037_29 r400037_30 r400037_31 r400037_32 r400037_33 r400037_34 r400037_35 r400037_36 r400037_37 r400037_38 r400037_39 r400037_40 r400037_41 r400037_42 r400037_43 r400054_5 r400054_6 r400054_7 r400054_8 (by omega) (by omega) (by omega) (by omega) (by omega) (by omega) (by omega) (by omega) (by omega) (by omega) (by omega) (by omega) (by omega) (by omega) (by omega) (by omega) (by omega) (by omega) (by omega) (by omega) (by omega) (by omega) (by omega) (by omega) (by omega) (by omega) (rp_mono h544 (by omega) (by omega)) (rp_mono h544 (by omega) (by omega)) (rp_mono h545 (by omega) (by omega)) (rp_mono h543 (by omega) (by omega)) (rp_mono h545 (by omega) (by omega))
          refine ⟨fun c400079 => ?_, fun c400079 => ?_⟩
          · have f551 : (bz r400054_1).toInt = 0 := i_eq (a := (bz r400054_1).toInt) (b := 0) rfl rfl c400079
            exact j_400087 2 (by omega)
          · have f552 : (bz r400054_1).toInt ≠ 0 := i_ne (a := (bz r400054_1).toInt) (b := 0) rfl rfl c400079
            exact j_400087 0 (by omega)
        refine ⟨fun c400064 => ?_, fun c400064 => ?_⟩
        · have f553 : (bz r400054_0).toInt = 0 := i_eq (a := (bz r400054_0).toInt) (b := 0) rfl rfl c400064
          exact j_400072 1 (by omega)
        · have f554 : (bz r400054_0).toInt ≠ 0 := i_ne (a := (bz r400054_0).toInt) (b := 0) rfl rfl c400064
          exact j_400072 0 (by omega)
      · have f555 : r400037.toInt ≠ 0 := i_ne (a := r400037.toInt) (b := 0) rfl rfl c400044
        exact hq r400037 r200016_0 v_sets_onlyInOne v_sets_onlyInOther v_sets_stamp v_sets_pairCount v_sets_parted r400037_0 r400037_1 r400037_2 r400037_3 r400037_4 r400037_5 r400037_6 r400037_7 r400037_8 r400037_9 r400037_10 r400037_11 r400037_12 r400037_13 r400037_14 r400037_15 r400037_16 r400037_17 r400037_18 r400037_19 r400037_20 r400037_21 r400037_22 r400037_23 r400037_24 r400037_25 r400037_26 r400037_27 r400037_28 r400037_29 r400037_30 r400037_31 r400037_32 r400037_33 r400037_34 r400037_35 r400037_36 r400037_37 r400037_38 r400037_39 r400037_40 r400037_41 r400037_42 r400037_43 v_sets_met v_sets_pairs v_sets_cameFrom v_sets_cameBy (by omega) (by omega) (by omega) (by omega) (by omega) (by omega) (by omega) (by omega) (by omega) (by omega) (by omega) (by omega) (by omega) (by omega) (by omega) (by omega) (by omega) (by omega) (by omega) (by omega) (by omega) (by omega) (by omega) (by omega) (by omega) (by omega) (rp_mono b0 (by omega) (by omega)) (rp_mono b0 (by omega) (by omega)) (rp_mono b0 (by omega) (by omega)) (rp_nil (by omega)) (rp_mono b0 (by omega) (by omega))
