theorem ok_X6_openGroup {v_depth : Int32} {v_groups : Nat → Option Nat} {h2 : Nat} {Q : Int32 → Prop} (a0 : 0 ≤ v_depth.toInt) (a1 : v_depth.toInt ≤ 9) (v0 : ∀ i9 : Int32, i9.toInt = v_depth.toInt + (0) → 0 ≤ i9.toInt → i9.toInt ≤ 9 → v_groups i9.toNatClampNeg = some h2) (hq : ∀ (r : Int32), r.toInt = 1 → Q r) : w_X6_openGroup v_depth v_groups h2 Q := by
  unfold w_X6_openGroup
  refine ⟨fun c0 => ?_, fun c0 => ⟨fun c1 => ?_, fun c1 => ?_⟩⟩
  · exfalso
    have h9 := i_lt (a := v_depth.toInt) (b := 0) rfl rfl c0
    omega
  · exfalso
    have h9 := i_le (a := 10) (b := v_depth.toInt) rfl rfl c1
    omega
  · unfold w_X6_openGroup_31
    exact ⟨i_in (by omega) (by omega), v0 v_depth (by omega) (by omega) (by omega), hq 1 rfl⟩
set_option maxHeartbeats 4000000 in
theorem ok_X6_here {v_text_count : Int32} {v_text_items : Nat → Int32} {nv_text_items : Nat} {v_at : Int32} {Q : Int32 → Prop} (a0 : 0 ≤ v_text_count.toInt) (a1 : v_text_count.toInt ≤ (nv_text_items : Int)) (a2 : (nv_text_items : Int) ≤ 1000) (hq : ∀ (r : Int32), ((0 ≤ v_at.toInt ∧ v_at.toInt + 1 ≤ v_text_count.toInt ∧ v_at.toInt + 1 ≤ (nv_text_items : Int)) ∨ (r.toInt + 1 = 0)) → Q r) : w_X6_here v_text_count v_text_items nv_text_items v_at Q := by
  have q_t : (bz true).toInt = 1 := rfl
  have q_f : (bz false).toInt = 0 := rfl
  unfold w_X6_here
  refine ok_X7_at (by omega) (by omega) (by omega) (fun r8 f1 => ?_)
  exact hq r8 (by omega)
set_option maxHeartbeats 4000000 in
theorem ok_X6_blame {p1 : Int32} {p2 : Int32} {v_fault : Int32} {v_faultPlace : Int32} {Q : Int32 → Int32 → Prop} (hq : ∀ (ov_fault : Int32) (ov_faultPlace : Int32), ((v_fault.toInt ≠ 0 ∧ ov_fault.toInt = v_fault.toInt) ∨ (v_fault.toInt = 0 ∧ ov_fault.toInt = p1.toInt)) → ((ov_fault.toInt = v_fault.toInt ∧ ov_faultPlace.toInt = v_faultPlace.toInt) ∨ (ov_fault.toInt = p1.toInt ∧ ov_faultPlace.toInt = p2.toInt ∧ v_fault.toInt = 0)) → Q ov_fault ov_faultPlace) : w_X6_blame p1 p2 v_fault v_faultPlace Q := by
  have q_t : (bz true).toInt = 1 := rfl
  have q_f : (bz false).toInt = 0 := rfl
  unfold w_X6_blame
  have j_17 : ∀ (v_fault_17 : Int32) (v_faultPlace_17 : Int32), ((v_fault.toInt ≠ 0 ∧ v_fault_17.toInt = v_fault.toInt) ∨ (v_fault.toInt = 0 ∧ v_fault_17.toInt = p1.toInt)) → ((v_fault_17.toInt = v_fault.toInt ∧ v_faultPlace_17.toInt = v_faultPlace.toInt) ∨ (v_fault_17.toInt = p1.toInt ∧ v_faultPlace_17.toInt = p2.toInt ∧ v_fault.toInt = 0)) → w_X6_blame_17 Q v_fault_17 v_faultPlace_17 := by
    intro v_fault_17 v_faultPlace_17 f1 f2
    unfold w_X6_blame_17
    exact hq v_fault_17 v_faultPlace_17 (by omega) (by omega)
  refine ⟨fun c4 => ?_, fun c4 => ?_⟩
  · have f3 : v_fault.toInt ≠ 0 := i_ne (a := v_fault.toInt) (b := 0) rfl rfl c4
    exact j_17 v_fault v_faultPlace (by omega) (by omega)
  · have f4 : v_fault.toInt = 0 := i_eq (a := v_fault.toInt) (b := 0) rfl rfl c4
    exact j_17 p1 p2 (by omega) (by omega)
set_option maxHeartbeats 4000000 in
theorem ok_X6_countItem {v_fault : Int32} {v_faultPlace : Int32} {v_at : Int32} {v_items : Int32} {Q : Int32 → Int32 → Int32 → Int32 → Prop} (hq : ∀ (r : Int32) (ov_fault : Int32) (ov_faultPlace : Int32) (ov_items : Int32), v_fault.toInt ≤ ov_fault.toInt → ((v_fault.toInt = 0) ∨ (ov_fault.toInt = v_fault.toInt)) → ((ov_fault.toInt = v_fault.toInt ∧ ov_faultPlace.toInt = v_faultPlace.toInt ∧ ov_items.toInt ≤ 100) ∨ (101 ≤ ov_items.toInt)) → ((r.toInt = 0 ∧ ov_fault.toInt ≠ 0) ∨ (r.toInt = 1 ∧ ov_fault.toInt = 0)) → ((r.toInt = 0) ∨ (r.toInt = 1 ∧ ov_fault.toInt = 0)) → Q r ov_fault ov_faultPlace ov_items) : w_X6_countItem v_fault v_faultPlace v_at v_items Q := by
  have q_t : (bz true).toInt = 1 := rfl
  have q_f : (bz false).toInt = 0 := rfl
  have q_0 : (0 : Int32).toInt = 0 := rfl
  have q_1 : (1 : Int32).toInt = 1 := rfl
  have q_2 : (2 : Int32).toInt = 2 := rfl
  unfold w_X6_countItem
  intro x6 ex6
  have j_28 : ∀ (v_fault_28 : Int32) (v_faultPlace_28 : Int32), v_fault.toInt ≤ v_fault_28.toInt → ((v_fault.toInt = 0) ∨ (v_fault_28.toInt = v_fault.toInt)) → ((v_fault_28.toInt = v_fault.toInt ∧ v_faultPlace_28.toInt = v_faultPlace.toInt ∧ x6.toInt ≤ 100) ∨ (101 ≤ x6.toInt)) → w_X6_countItem_28 Q v_fault_28 v_faultPlace_28 x6 := by
    intro v_fault_28 v_faultPlace_28 f1 f2 f3
    unfold w_X6_countItem_28
    have j_40 : ∀ (s0_40 : Int32), ((s0_40.toInt = 0 ∧ v_fault_28.toInt ≠ 0) ∨ (s0_40.toInt = 1 ∧ v_fault_28.toInt = 0)) → ((s0_40.toInt = 0) ∨ (s0_40.toInt = 1 ∧ v_fault_28.toInt = 0)) → w_X6_countItem_40 Q s0_40 v_fault_28 v_faultPlace_28 x6 := by
      intro s0_40 f4 f5
      unfold w_X6_countItem_40
      refine ⟨i_01 (by omega) (by omega), ?_⟩
      exact hq s0_40 v_fault_28 v_faultPlace_28 x6 (by omega) (by omega) (by omega) (by omega) (by omega)
    refine ⟨fun c32 => ?_, fun c32 => ?_⟩
    · have f6 : v_fault_28.toInt ≠ 0 := i_ne (a := v_fault_28.toInt) (b := 0) rfl rfl c32
      exact j_40 0 (by omega) (by omega)
    · have f7 : v_fault_28.toInt = 0 := i_eq (a := v_fault_28.toInt) (b := 0) rfl rfl c32
      exact j_40 1 (by omega) (by omega)
  refine ⟨fun c16 => ?_, fun c16 => ?_⟩
  · have f8 : x6.toInt ≤ 100 := i_le (a := x6.toInt) (b := 100) rfl rfl c16
    exact j_28 v_fault v_faultPlace (by omega) (by omega) (by omega)
  · have f9 : 100 < x6.toInt := i_nle (a := x6.toInt) (b := 100) rfl rfl c16
    refine ok_X6_blame  (fun r25_0 r25_1 f10 f11 => ?_)
    exact j_28 r25_0 r25_1 (by omega) (by omega) (by omega)
set_option maxHeartbeats 4000000 in
theorem ok_X6_make {p1 : Int32} {p2 : Int32} {p3 : Int32} {p4 : Int32} {v_fault : Int32} {v_faultPlace : Int32} {v_count : Int32} {v_at : Int32} {v_sort : Nat → Int32} {v_value : Nat → Int32} {v_low : Nat → Int32} {v_high : Nat → Int32} {v_firstPart : Nat → Int32} {v_nextPart : Nat → Int32} {Q : Int32 → Int32 → Int32 → Int32 → (Nat → Int32) → (Nat → Int32) → (Nat → Int32) → (Nat → Int32) → (Nat → Int32) → (Nat → Int32) → Prop} (a0 : 0 ≤ v_count.toInt) (a1 : v_count.toInt ≤ 256) (a2 : v_count.toInt ≤ 255) (b0 : rp (fun k v => v = -1 ∨ k < v) v_nextPart 0 v_count.toInt) (hq : ∀ (r : Int32) (ov_fault : Int32) (ov_faultPlace : Int32) (ov_count : Int32) (ov_sort : Nat → Int32) (ov_value : Nat → Int32) (ov_low : Nat → Int32) (ov_high : Nat → Int32) (ov_firstPart : Nat → Int32) (ov_nextPart : Nat → Int32), r.toInt = v_count.toInt → ov_fault.toInt = v_fault.toInt → ov_faultPlace.toInt = v_faultPlace.toInt → ov_count.toInt = v_count.toInt + 1 → rp (fun k v => v = -1 ∨ k < v) ov_nextPart 0 (v_count.toInt + 1) → rp (fun k v => v = -1 ∨ k < v) ov_nextPart 0 (r.toInt + 1) → rp (fun k v => v = -1 ∨ k < v) ov_nextPart 0 ov_count.toInt → Q r ov_fault ov_faultPlace ov_count ov_sort ov_value ov_low ov_high ov_firstPart ov_nextPart) : w_X6_make p1 p2 p3 p4 v_fault v_faultPlace v_count v_at v_sort v_value v_low v_high v_firstPart v_nextPart Q := by
  have q_t : (bz true).toInt = 1 := rfl
  have q_f : (bz false).toInt = 0 := rfl
  unfold w_X6_make
  refine ⟨fun c7 => ?_, fun c7 => ?_⟩
  · have f1 : v_count.toInt < 256 := i_lt (a := v_count.toInt) (b := 256) rfl rfl c7
    intro x33 ex33
    have f2 : x33.toInt = v_count.toInt + 1 := i_add (a := v_count.toInt) (b := 1) ex33 rfl rfl (by omega) (by omega)
    refine ⟨i_in (by omega) (by omega), ?_⟩
    intro g44 eg44
    refine ⟨i_in (by omega) (by omega), ?_⟩
    intro g52 eg52
    refine ⟨i_in (by omega) (by omega), ?_⟩
    intro g60 eg60
    refine ⟨i_in (by omega) (by omega), ?_⟩
    intro g69 eg69
    refine ⟨i_in (by omega) (by omega), ?_⟩
    intro g77 eg77
    refine ⟨i_in (by omega) (by omega), ?_⟩
    intro g85 eg85
    have h3 : rp (fun k v => v = -1 ∨ k < v) g85 0 (v_count.toInt + 1) := rp_ext (P := (fun k v => v = -1 ∨ k < v)) (a := v_count.toInt) (b := (-1)) b0 eg85 rfl rfl (by omega) (by omega) (by omega)
    exact hq v_count v_fault v_faultPlace x33 g44 g52 g60 g69 g77 g85 (by omega) (by omega) (by omega) (by omega) (rp_mono h3 (by omega) (by omega)) (rp_mono h3 (by omega) (by omega)) (rp_mono h3 (by omega) (by omega))
  · have f4 : 256 ≤ v_count.toInt := i_nlt (a := v_count.toInt) (b := 256) rfl rfl c7
    exfalso; omega
set_option maxHeartbeats 4000000 in
theorem ok_X6_lookOfMark {p0 : Int32} {Q : Int32 → Prop} (hq : ∀ (r : Int32), 0 ≤ r.toInt → r.toInt ≤ 3 → Q r) : w_X6_lookOfMark p0 Q := by
  have q_t : (bz true).toInt = 1 := rfl
  have q_f : (bz false).toInt = 0 := rfl
  have q_0 : (0 : Int32).toInt = 0 := rfl
  have q_1 : (1 : Int32).toInt = 1 := rfl
  have q_2 : (2 : Int32).toInt = 2 := rfl
  have q_3 : (3 : Int32).toInt = 3 := rfl
  unfold w_X6_lookOfMark
  refine ⟨fun c1_0 => ?_, fun c1_1 => ?_, fun c1_2 => ?_, ?_⟩
  · have f1 : p0.toInt = 33 := i_eq (a := p0.toInt) (b := 33) rfl rfl c1_0
    exact hq 1 (by omega) (by omega)
  · have f2 : p0.toInt = 60 := i_eq (a := p0.toInt) (b := 60) rfl rfl c1_1
    exact hq 2 (by omega) (by omega)
  · have f3 : p0.toInt = 126 := i_eq (a := p0.toInt) (b := 126) rfl rfl c1_2
    exact hq 3 (by omega) (by omega)
  · intro c1_0 c1_1 c1_2
    have f4 : p0.toInt ≠ 33 := i_ne (a := p0.toInt) (b := 33) rfl rfl c1_0
    have f5 : p0.toInt ≠ 60 := i_ne (a := p0.toInt) (b := 60) rfl rfl c1_1
    have f6 : p0.toInt ≠ 126 := i_ne (a := p0.toInt) (b := 126) rfl rfl c1_2
    exact hq 0 (by omega) (by omega)
set_option maxHeartbeats 4000000 in
theorem ok_X6_sortOfMark {p0 : Int32} {Q : Int32 → Prop} (hq : ∀ (r : Int32), 0 ≤ r.toInt + 1 → r.toInt ≤ 11 → Q r) : w_X6_sortOfMark p0 Q := by
  have q_t : (bz true).toInt = 1 := rfl
  have q_f : (bz false).toInt = 0 := rfl
  have q_m1 : ((-1) : Int32).toInt = (-1) := rfl
  have q_8 : (8 : Int32).toInt = 8 := rfl
  have q_9 : (9 : Int32).toInt = 9 := rfl
  have q_10 : (10 : Int32).toInt = 10 := rfl
  have q_11 : (11 : Int32).toInt = 11 := rfl
  unfold w_X6_sortOfMark
  have j_70 : w_X6_sortOfMark_70 Q := by
    unfold w_X6_sortOfMark_70
    exact hq 9 (by omega) (by omega)
  refine ⟨fun c1_0 => ?_, fun c1_1 => ?_, fun c1_2 => ?_, fun c1_3 => ?_, fun c1_4 => ?_, fun c1_5 => ?_, fun c1_6 => ?_, ?_⟩
  · have f1 : p0.toInt = 33 := i_eq (a := p0.toInt) (b := 33) rfl rfl c1_0
    exact j_70  
  · have f2 : p0.toInt = 37 := i_eq (a := p0.toInt) (b := 37) rfl rfl c1_1
    exact hq 11 (by omega) (by omega)
  · have f3 : p0.toInt = 42 := i_eq (a := p0.toInt) (b := 42) rfl rfl c1_2
    exact hq 10 (by omega) (by omega)
  · have f4 : p0.toInt = 58 := i_eq (a := p0.toInt) (b := 58) rfl rfl c1_3
    exact hq (-1) (by omega) (by omega)
  · have f5 : p0.toInt = 60 := i_eq (a := p0.toInt) (b := 60) rfl rfl c1_4
    exact j_70  
  · have f6 : p0.toInt = 61 := i_eq (a := p0.toInt) (b := 61) rfl rfl c1_5
    exact j_70  
  · have f7 : p0.toInt = 126 := i_eq (a := p0.toInt) (b := 126) rfl rfl c1_6
    exact j_70  
  · intro c1_0 c1_1 c1_2 c1_3 c1_4 c1_5 c1_6
    have f8 : p0.toInt ≠ 33 := i_ne (a := p0.toInt) (b := 33) rfl rfl c1_0
    have f9 : p0.toInt ≠ 37 := i_ne (a := p0.toInt) (b := 37) rfl rfl c1_1
    have f10 : p0.toInt ≠ 42 := i_ne (a := p0.toInt) (b := 42) rfl rfl c1_2
    have f11 : p0.toInt ≠ 58 := i_ne (a := p0.toInt) (b := 58) rfl rfl c1_3
    have f12 : p0.toInt ≠ 60 := i_ne (a := p0.toInt) (b := 60) rfl rfl c1_4
    have f13 : p0.toInt ≠ 61 := i_ne (a := p0.toInt) (b := 61) rfl rfl c1_5
    have f14 : p0.toInt ≠ 126 := i_ne (a := p0.toInt) (b := 126) rfl rfl c1_6
    exact hq 8 (by omega) (by omega)
set_option maxHeartbeats 4000000 in
theorem ok_X6_makeRound {p1 : Int32} {p2 : Int32} {p3 : Int32} {p4 : Int32} {p5 : Int32} {v_fault : Int32} {v_faultPlace : Int32} {v_count : Int32} {v_at : Int32} {v_sort : Nat → Int32} {v_value : Nat → Int32} {v_low : Nat → Int32} {v_high : Nat → Int32} {v_firstPart : Nat → Int32} {v_nextPart : Nat → Int32} {Q : Int32 → Int32 → Int32 → Int32 → (Nat → Int32) → (Nat → Int32) → (Nat → Int32) → (Nat → Int32) → (Nat → Int32) → (Nat → Int32) → Prop} (a0 : 0 ≤ v_count.toInt) (a1 : v_count.toInt ≤ 256) (a2 : v_count.toInt ≤ 255) (b0 : rp (fun k v => v = -1 ∨ k < v) v_nextPart 0 v_count.toInt) (hq : ∀ (r : Int32) (ov_fault : Int32) (ov_faultPlace : Int32) (ov_count : Int32) (ov_sort : Nat → Int32) (ov_value : Nat → Int32) (ov_low : Nat → Int32) (ov_high : Nat → Int32) (ov_firstPart : Nat → Int32) (ov_nextPart : Nat → Int32), r.toInt = v_count.toInt → ov_fault.toInt = v_fault.toInt → ov_faultPlace.toInt = v_faultPlace.toInt → ov_count.toInt = v_count.toInt + 1 → rp (fun k v => v = -1 ∨ k < v) ov_nextPart 0 (v_count.toInt + 1) → rp (fun k v => v = -1 ∨ k < v) ov_nextPart 0 (r.toInt + 1) → rp (fun k v => v = -1 ∨ k < v) ov_nextPart 0 ov_count.toInt → Q r ov_fault ov_faultPlace ov_count ov_sort ov_value ov_low ov_high ov_firstPart ov_nextPart) : w_X6_makeRound p1 p2 p3 p4 p5 v_fault v_faultPlace v_count v_at v_sort v_value v_low v_high v_firstPart v_nextPart Q := by
  have q_t : (bz true).toInt = 1 := rfl
  have q_f : (bz false).toInt = 0 := rfl
  unfold w_X6_makeRound
  refine ok_X6_make (by omega) (by omega) (by omega) (rp_mono b0 (by omega) (by omega)) (fun r6 r6_0 r6_1 r6_2 r6_3 r6_4 r6_5 r6_6 r6_7 r6_8 f1 f2 f3 f4 h5 h6 h7 => ?_)
  refine ⟨i_in (by omega) (by omega), ?_⟩
  intro g19 eg19
  exact hq r6 r6_0 r6_1 r6_2 r6_3 r6_4 r6_5 r6_6 g19 r6_8 (by omega) (by omega) (by omega) (by omega) (rp_mono h7 (by omega) (by omega)) (rp_mono h7 (by omega) (by omega)) (rp_mono h7 (by omega) (by omega))
set_option maxHeartbeats 4000000 in
theorem ok_X6_choiceOf {v_fault : Int32} {v_faultPlace : Int32} {v_count : Int32} {v_at : Int32} {v_sort : Nat → Int32} {v_value : Nat → Int32} {v_low : Nat → Int32} {v_high : Nat → Int32} {v_firstPart : Nat → Int32} {v_nextPart : Nat → Int32} {a1_pending : Int32} {a1_rowFirst : Int32} {a1_rowLast : Int32} {a1_choiceFirst : Int32} {a1_choiceLast : Int32} {a1_choiceCount : Int32} {gb : Int} {Q : Int32 → Int32 → Int32 → Int32 → (Nat → Int32) → (Nat → Int32) → (Nat → Int32) → (Nat → Int32) → (Nat → Int32) → (Nat → Int32) → Prop} (a0 : 0 ≤ v_count.toInt) (a1 : v_count.toInt ≤ 256) (a2 : v_count.toInt ≤ 255) (b0 : rp (fun k v => v = -1 ∨ k < v) v_nextPart 0 v_count.toInt) (u0 : zrJ gb v_count.toInt a1_pending a1_rowFirst a1_rowLast a1_choiceFirst a1_choiceLast) (hq : ∀ (r : Int32) (ov_fault : Int32) (ov_faultPlace : Int32) (ov_count : Int32) (ov_sort : Nat → Int32) (ov_value : Nat → Int32) (ov_low : Nat → Int32) (ov_high : Nat → Int32) (ov_firstPart : Nat → Int32) (ov_nextPart : Nat → Int32), ov_fault.toInt = v_fault.toInt → ov_faultPlace.toInt = v_faultPlace.toInt → 0 ≤ ov_count.toInt → ov_count.toInt ≤ 256 → v_count.toInt ≤ ov_count.toInt → ov_count.toInt ≤ v_count.toInt + 1 → ((r.toInt = v_count.toInt ∧ ov_count.toInt = v_count.toInt + 1) ∨ (r.toInt = a1_choiceFirst.toInt ∧ ov_count.toInt = v_count.toInt ∧ a1_choiceCount.toInt = 1)) → rp (fun k v => v = -1 ∨ k < v) ov_nextPart 0 ov_count.toInt → rp (fun k v => v = -1 ∨ k < v) ov_nextPart 0 v_count.toInt → (r.toInt = -1 ∨ gb ≤ r.toInt) → (r.toInt < ov_count.toInt) → Q r ov_fault ov_faultPlace ov_count ov_sort ov_value ov_low ov_high ov_firstPart ov_nextPart) : w_X6_choiceOf v_fault v_faultPlace v_count v_at v_sort v_value v_low v_high v_firstPart v_nextPart a1_choiceFirst a1_choiceCount Q := by
  have q_t : (bz true).toInt = 1 := rfl
  have q_f : (bz false).toInt = 0 := rfl
  have q_0 : (0 : Int32).toInt = 0 := rfl
  have q_6 : (6 : Int32).toInt = 6 := rfl
  unfold w_X6_choiceOf
  have j_28 : ∀ (s0_28 : Int32) (v_fault_28 : Int32) (v_faultPlace_28 : Int32) (v_count_28 : Int32) (v_sort_28 : Nat → Int32) (v_value_28 : Nat → Int32) (v_low_28 : Nat → Int32) (v_high_28 : Nat → Int32) (v_firstPart_28 : Nat → Int32) (v_nextPart_28 : Nat → Int32), v_fault_28.toInt = v_fault.toInt → v_faultPlace_28.toInt = v_faultPlace.toInt → 0 ≤ v_count_28.toInt → v_count_28.toInt ≤ 256 → v_count.toInt ≤ v_count_28.toInt → v_count_28.toInt ≤ v_count.toInt + 1 → ((s0_28.toInt = v_count.toInt ∧ v_count_28.toInt = v_count.toInt + 1) ∨ (s0_28.toInt = a1_choiceFirst.toInt ∧ v_count_28.toInt = v_count.toInt ∧ a1_choiceCount.toInt = 1)) → rp (fun k v => v = -1 ∨ k < v) v_nextPart_28 0 v_count_28.toInt → rp (fun k v => v = -1 ∨ k < v) v_nextPart_28 0 v_count.toInt → (s0_28.toInt = -1 ∨ gb ≤ s0_28.toInt) → (s0_28.toInt < v_count_28.toInt) → w_X6_choiceOf_28 Q s0_28 v_fault_28 v_faultPlace_28 v_count_28 v_sort_28 v_value_28 v_low_28 v_high_28 v_firstPart_28 v_nextPart_28 := by
    intro s0_28 v_fault_28 v_faultPlace_28 v_count_28 v_sort_28 v_value_28 v_low_28 v_high_28 v_firstPart_28 v_nextPart_28 f1 f2 f3 f4 f5 f6 f7 h8 h9 u28_0 u28_1
    unfold w_X6_choiceOf_28
    exact hq s0_28 v_fault_28 v_faultPlace_28 v_count_28 v_sort_28 v_value_28 v_low_28 v_high_28 v_firstPart_28 v_nextPart_28 (by omega) (by omega) (by omega) (by omega) (by omega) (by omega) (by omega) (rp_mono h8 (by omega) (by omega)) (rp_mono h9 (by omega) (by omega)) (by exact u28_0) (by exact u28_1)
  refine ⟨fun c5 => ?_, fun c5 => ?_⟩
  · have f10 : a1_choiceCount.toInt ≠ 1 := i_ne (a := a1_choiceCount.toInt) (b := 1) rfl rfl c5
    refine ok_X6_makeRound (by omega) (by omega) (by omega) (rp_mono b0 (by omega) (by omega)) (fun r25 r25_0 r25_1 r25_2 r25_3 r25_4 r25_5 r25_6 r25_7 r25_8 f11 f12 f13 f14 h15 h16 h17 => ?_)
    exact j_28 r25 r25_0 r25_1 r25_2 r25_3 r25_4 r25_5 r25_6 r25_7 r25_8 (by omega) (by omega) (by omega) (by omega) (by omega) (by omega) (by omega) (rp_mono h17 (by omega) (by omega)) (rp_mono h17 (by omega) (by omega)) (by unfold zrJ at u0; omega) (by unfold zrJ at u0; omega)
  · have f18 : a1_choiceCount.toInt = 1 := i_eq (a := a1_choiceCount.toInt) (b := 1) rfl rfl c5
    exact j_28 a1_choiceFirst v_fault v_faultPlace v_count v_sort v_value v_low v_high v_firstPart v_nextPart (by omega) (by omega) (by omega) (by omega) (by omega) (by omega) (by omega) (rp_mono b0 (by omega) (by omega)) (rp_mono b0 (by omega) (by omega)) (by unfold zrJ at u0; omega) (by unfold zrJ at u0; omega)
set_option maxHeartbeats 4000000 in
theorem ok_X6_addPart {p1 : Int32} {p2 : Int32} {v_partCount : Int32} {v_partBegin : Nat → Int32} {v_partEnd : Nat → Int32} {Q : Int32 → (Nat → Int32) → (Nat → Int32) → Prop} (a0 : 0 ≤ v_partCount.toInt) (a1 : v_partCount.toInt ≤ 200) (hq : ∀ (ov_partCount : Int32) (ov_partBegin : Nat → Int32) (ov_partEnd : Nat → Int32), v_partCount.toInt ≤ ov_partCount.toInt → ((ov_partCount.toInt = v_partCount.toInt ∧ 200 ≤ v_partCount.toInt) ∨ (v_partCount.toInt ≤ 199 ∧ ov_partCount.toInt = v_partCount.toInt + 1)) → Q ov_partCount ov_partBegin ov_partEnd) : w_X6_addPart p1 p2 v_partCount v_partBegin v_partEnd Q := by
  have q_t : (bz true).toInt = 1 := rfl
  have q_f : (bz false).toInt = 0 := rfl
  unfold w_X6_addPart
  refine ⟨fun c7 => ?_, fun c7 => ?_⟩
  · have f1 : v_partCount.toInt < 200 := i_lt (a := v_partCount.toInt) (b := 200) rfl rfl c7
    have j_16 : ∀ n_16 : Nat, ∀ (l3_16 : Int32) (v_partBegin_16 : Nat → Int32) (v_partEnd_16 : Nat → Int32), 0 ≤ l3_16.toInt → l3_16.toInt ≤ v_partCount.toInt → (l3_16.toInt + 2147483649).toNat < n_16 → w_X6_addPart_16 p1 p2 Q v_partCount n_16 l3_16 v_partBegin_16 v_partEnd_16 := by
      intro n_16
      induction n_16 with
      | zero =>
        intro l3_16 v_partBegin_16 v_partEnd_16 f2 f3 hm_16
        exfalso; omega
      | succ n_16 ih_16 =>
        intro l3_16 v_partBegin_16 v_partEnd_16 f2 f3 hm_16
        unfold w_X6_addPart_16
        unfold w_X6_addPart_16B
        have j_66 : ((l3_16.toInt ≤ 0) ∨ (1 ≤ l3_16.toInt)) → w_X6_addPart_66 p1 p2 Q l3_16 v_partCount v_partBegin_16 v_partEnd_16 := by
          intro f4
          unfold w_X6_addPart_66
          refine ⟨i_in (by omega) (by omega), ?_⟩
          intro g72 eg72
          refine ⟨i_in (by omega) (by omega), ?_⟩
          intro g79 eg79
          intro x86 ex86
          have f5 : x86.toInt = v_partCount.toInt + 1 := i_add (a := v_partCount.toInt) (b := 1) ex86 rfl rfl (by omega) (by omega)
          exact hq x86 g72 g79 (by omega) (by omega)
        refine ⟨fun c17 => ?_, fun c17 => ?_⟩
        · have f6 : l3_16.toInt ≤ 0 := i_le (a := l3_16.toInt) (b := 0) rfl rfl c17
          exact j_66  (by omega)
        · have f7 : 0 < l3_16.toInt := i_nle (a := l3_16.toInt) (b := 0) rfl rfl c17
          intro x26 ex26
          have f8 : x26.toInt = l3_16.toInt - 1 := i_sub (a := l3_16.toInt) (b := 1) ex26 rfl rfl (by omega) (by omega)
          refine ⟨i_in (by omega) (by omega), ?_⟩
          intro x27 ex27
          refine ⟨fun c29 => ?_, fun c29 => ?_⟩
          · have f9 : x27.toInt ≤ p1.toInt := i_le (a := x27.toInt) (b := p1.toInt) rfl rfl c29
            exact j_66  (by omega)
          · have f10 : p1.toInt < x27.toInt := i_nle (a := x27.toInt) (b := p1.toInt) rfl rfl c29
            intro x43 ex43
            have f11 : x43.toInt = l3_16.toInt - 1 := i_sub (a := l3_16.toInt) (b := 1) ex43 rfl rfl (by omega) (by omega)
            refine ⟨i_in (by omega) (by omega), ?_⟩
            intro x44 ex44
            refine ⟨i_in (by omega) (by omega), ?_⟩
            intro g45 eg45
            intro x57 ex57
            have f12 : x57.toInt = l3_16.toInt - 1 := i_sub (a := l3_16.toInt) (b := 1) ex57 rfl rfl (by omega) (by omega)
            refine ⟨i_in (by omega) (by omega), ?_⟩
            intro x58 ex58
            refine ⟨i_in (by omega) (by omega), ?_⟩
            intro g59 eg59
            intro x60 ex60
            have f13 : x60.toInt = l3_16.toInt + (-1) := i_add (a := l3_16.toInt) (b := (-1)) ex60 rfl rfl (by omega) (by omega)
            exact ih_16 x60 g45 g59  (by omega) (by omega) (by have h8_0 := i_rng l3_16; have h8_1 := i_rng x60; omega)
    exact ⟨(v_partCount.toInt + 2147483649).toNat + 1, j_16   ((v_partCount.toInt + 2147483649).toNat + 1) v_partCount v_partBegin v_partEnd  (by omega) (by omega) (by omega)⟩
  · have f14 : 200 ≤ v_partCount.toInt := i_nlt (a := v_partCount.toInt) (b := 200) rfl rfl c7
    exact hq v_partCount v_partBegin v_partEnd (by omega) (by omega)
set_option maxHeartbeats 4000000 in
theorem ok_X6_makeSet {p1 : Int32} {v_fault : Int32} {v_faultPlace : Int32} {v_count : Int32} {v_at : Int32} {v_partCount : Int32} {v_sort : Nat → Int32} {v_value : Nat → Int32} {v_low : Nat → Int32} {v_high : Nat → Int32} {v_firstPart : Nat → Int32} {v_nextPart : Nat → Int32} {v_tree_ranges : Int32} {v_tree_rangeBegin : Nat → Int32} {v_tree_rangeEnd : Nat → Int32} {v_partBegin : Nat → Int32} {v_partEnd : Nat → Int32} {Q : Int32 → Int32 → Int32 → Int32 → (Nat → Int32) → (Nat → Int32) → (Nat → Int32) → (Nat → Int32) → (Nat → Int32) → (Nat → Int32) → Int32 → (Nat → Int32) → (Nat → Int32) → Prop} (a0 : 0 ≤ v_count.toInt) (a1 : v_count.toInt ≤ 256) (a2 : 0 ≤ v_partCount.toInt) (a3 : v_partCount.toInt ≤ 200) (a4 : 0 ≤ v_tree_ranges.toInt) (a5 : v_tree_ranges.toInt ≤ 512) (a6 : 0 ≤ p1.toInt) (a7 : p1.toInt ≤ 1) (a8 : v_count.toInt ≤ 255) (b0 : rp (fun k v => v = -1 ∨ k < v) v_nextPart 0 v_count.toInt) (hq : ∀ (r : Int32) (ov_fault : Int32) (ov_faultPlace : Int32) (ov_count : Int32) (ov_sort : Nat → Int32) (ov_value : Nat → Int32) (ov_low : Nat → Int32) (ov_high : Nat → Int32) (ov_firstPart : Nat → Int32) (ov_nextPart : Nat → Int32) (ov_tree_ranges : Int32) (ov_tree_rangeBegin : Nat → Int32) (ov_tree_rangeEnd : Nat → Int32), 0 ≤ ov_tree_ranges.toInt → ov_tree_ranges.toInt ≤ 512 → r.toInt = v_count.toInt → ov_fault.toInt = v_fault.toInt → ov_faultPlace.toInt = v_faultPlace.toInt → ov_count.toInt = v_count.toInt + 1 → v_tree_ranges.toInt ≤ ov_tree_ranges.toInt → 1 ≤ ov_tree_ranges.toInt → rp (fun k v => v = -1 ∨ k < v) ov_nextPart 0 (v_count.toInt + 1) → rp (fun k v => v = -1 ∨ k < v) ov_nextPart 0 (r.toInt + 1) → rp (fun k v => v = -1 ∨ k < v) ov_nextPart 0 ov_count.toInt → Q r ov_fault ov_faultPlace ov_count ov_sort ov_value ov_low ov_high ov_firstPart ov_nextPart ov_tree_ranges ov_tree_rangeBegin ov_tree_rangeEnd) : w_X6_makeSet p1 v_fault v_faultPlace v_count v_at v_partCount v_sort v_value v_low v_high v_firstPart v_nextPart v_tree_ranges v_tree_rangeBegin v_tree_rangeEnd v_partBegin v_partEnd Q := by
  have q_t : (bz true).toInt = 1 := rfl
  have q_f : (bz false).toInt = 0 := rfl
  have q_0 : (0 : Int32).toInt = 0 := rfl
  have q_1 : (1 : Int32).toInt = 1 := rfl
  have q_2 : (2 : Int32).toInt = 2 := rfl
  unfold w_X6_makeSet
  refine ok_X10_rangeCount (by omega) (by omega) (fun r4 f1 => ?_)
  intro x13 ex13
  intro x20 ex20
  have j_26 : ∀ n_26 : Nat, ∀ (l3_26 : Int32) (l4_26 : Int32) (l5_26 : Int32) (v_tree_ranges_26 : Int32) (v_tree_rangeBegin_26 : Nat → Int32) (v_tree_rangeEnd_26 : Nat → Int32), 1 ≤ l5_26.toInt → l5_26.toInt ≤ 200 → l5_26.toInt ≤ v_partCount.toInt + 1 → r4.toInt ≤ v_tree_ranges_26.toInt → v_tree_ranges_26.toInt ≤ 512 → ((-1) * l5_26.toInt + 200).toNat < n_26 → w_X6_makeSet_26 p1 v_at v_partCount v_partBegin v_partEnd Q r4 v_fault v_faultPlace v_count v_sort v_value v_low v_high v_firstPart v_nextPart n_26 l3_26 l4_26 l5_26 v_tree_ranges_26 v_tree_rangeBegin_26 v_tree_rangeEnd_26 := by
    intro n_26
    induction n_26 with
    | zero =>
      intro l3_26 l4_26 l5_26 v_tree_ranges_26 v_tree_rangeBegin_26 v_tree_rangeEnd_26 f2 f3 f4 f5 f6 hm_26
      exfalso; omega
    | succ n_26 ih_26 =>
      intro l3_26 l4_26 l5_26 v_tree_ranges_26 v_tree_rangeBegin_26 v_tree_rangeEnd_26 f2 f3 f4 f5 f6 hm_26
      unfold w_X6_makeSet_26
      unfold w_X6_makeSet_26B
      have j_107 : v_partCount.toInt ≤ l5_26.toInt → w_X6_makeSet_107 p1 v_at Q r4 l3_26 l4_26 v_fault v_faultPlace v_count v_sort v_value v_low v_high v_firstPart v_nextPart v_tree_ranges_26 v_tree_rangeBegin_26 v_tree_rangeEnd_26 := by
        intro f7
        unfold w_X6_makeSet_107
        refine ok_X10_addRange (by omega) (by omega) (fun r114_0 r114_1 r114_2 f8 f9 f10 f11 => ?_)
        have j_128 : ∀ (s0_128 : Int32), ((s0_128.toInt = 0 ∧ p1.toInt = 0) ∨ (s0_128.toInt = 1)) → w_X6_makeSet_128 v_at Q s0_128 2 r4 v_fault v_faultPlace v_count v_sort v_value v_low v_high v_firstPart v_nextPart r114_0 r114_1 r114_2 := by
          intro s0_128 f12
          unfold w_X6_makeSet_128
          refine ok_X10_rangeCount (by omega) (by omega) (fun r133 f13 => ?_)
          intro x137 ex137
          have f14 : x137.toInt = r133.toInt - r4.toInt := i_sub (a := r133.toInt) (b := r4.toInt) ex137 rfl rfl (by omega) (by omega)
          refine ok_X6_make (by omega) (by omega) (by omega) (rp_mono b0 (by omega) (by omega)) (fun r138 r138_0 r138_1 r138_2 r138_3 r138_4 r138_5 r138_6 r138_7 r138_8 f15 f16 f17 f18 h19 h20 h21 => ?_)
          exact hq r138 r138_0 r138_1 r138_2 r138_3 r138_4 r138_5 r138_6 r138_7 r138_8 r114_0 r114_1 r114_2 (by omega) (by omega) (by omega) (by omega) (by omega) (by omega) (by omega) (by omega) (rp_mono h21 (by omega) (by omega)) (rp_mono h21 (by omega) (by omega)) (rp_mono h21 (by omega) (by omega))
        refine ⟨fun c120 => ?_, fun c120 => ?_⟩
        · have f22 : p1.toInt = 0 := i_eq (a := p1.toInt) (b := 0) rfl rfl c120
          exact j_128 0 (by omega)
        · have f23 : p1.toInt ≠ 0 := i_ne (a := p1.toInt) (b := 0) rfl rfl c120
          exact j_128 1 (by omega)
      refine ⟨fun c32 => ?_, fun c32 => ?_⟩
      · have f24 : v_partCount.toInt ≤ l5_26.toInt := i_le (a := v_partCount.toInt) (b := l5_26.toInt) rfl rfl c32
        exact j_107  (by omega)
      · have f25 : l5_26.toInt < v_partCount.toInt := i_nle (a := v_partCount.toInt) (b := l5_26.toInt) rfl rfl c32
        refine ⟨fun c40 => ?_, fun c40 => ?_⟩
        · have f26 : 200 ≤ l5_26.toInt := i_le (a := 200) (b := l5_26.toInt) rfl rfl c40
          exfalso; omega
        · have f27 : l5_26.toInt < 200 := i_nle (a := 200) (b := l5_26.toInt) rfl rfl c40
          refine ⟨i_in (by omega) (by omega), ?_⟩
          intro x49 ex49
          intro x53 ex53
          have j_101 : ∀ (l3_101 : Int32) (l4_101 : Int32) (v_tree_ranges_101 : Int32) (v_tree_rangeBegin_101 : Nat → Int32) (v_tree_rangeEnd_101 : Nat → Int32), 0 ≤ v_tree_ranges_101.toInt → v_tree_ranges_101.toInt ≤ 512 → v_tree_ranges.toInt ≤ v_tree_ranges_101.toInt → v_tree_ranges_26.toInt ≤ v_tree_ranges_101.toInt → v_tree_ranges_101.toInt ≤ v_tree_ranges_26.toInt + 1 → ((v_tree_ranges_101.toInt = v_tree_ranges_26.toInt) ∨ (0 ≤ v_tree_ranges_101.toInt ∧ v_tree_ranges_101.toInt ≤ 512 ∧ v_tree_ranges_26.toInt ≤ v_tree_ranges_101.toInt)) → w_X6_makeSet_101 Q (w_X6_makeSet_26 p1 v_at v_partCount v_partBegin v_partEnd Q r4 v_fault v_faultPlace v_count v_sort v_value v_low v_high v_firstPart v_nextPart n_26) l3_101 l4_101 l5_26 v_tree_ranges_101 v_tree_rangeBegin_101 v_tree_rangeEnd_101 := by
            intro l3_101 l4_101 v_tree_ranges_101 v_tree_rangeBegin_101 v_tree_rangeEnd_101 f28 f29 f30 f31 f32 f33
            unfold w_X6_makeSet_101
            intro x101 ex101
            have f34 : x101.toInt = l5_26.toInt + 1 := i_add (a := l5_26.toInt) (b := 1) ex101 rfl rfl (by omega) (by omega)
            exact ih_26 l3_101 l4_101 x101 v_tree_ranges_101 v_tree_rangeBegin_101 v_tree_rangeEnd_101  (by omega) (by omega) (by omega) (by omega) (by omega) (by have h8_0 := i_rng l5_26; have h8_1 := i_rng x101; omega)
          refine ⟨fun c54 => ?_, fun c54 => ?_⟩
          · have f35 : x49.toInt ≤ x53.toInt := i_le (a := x49.toInt) (b := x53.toInt) rfl rfl c54
            refine ⟨i_in (by omega) (by omega), ?_⟩
            intro x95 ex95
            intro x96 ex96
            have f36 : ((x96.toInt = l4_26.toInt ∧ x95.toInt ≤ l4_26.toInt) ∨ (x96.toInt = x95.toInt ∧ l4_26.toInt ≤ x95.toInt)) := by have h9 := i_max (a := l4_26.toInt) (b := x95.toInt) ex96 rfl rfl; omega
            exact j_101 l3_26 x96 v_tree_ranges_26 v_tree_rangeBegin_26 v_tree_rangeEnd_26 (by omega) (by omega) (by omega) (by omega) (by omega) (by omega)
          · have f37 : x53.toInt < x49.toInt := i_nle (a := x49.toInt) (b := x53.toInt) rfl rfl c54
            refine ok_X10_addRange (by omega) (by omega) (fun r64_0 r64_1 r64_2 f38 f39 f40 f41 => ?_)
            refine ⟨i_in (by omega) (by omega), ?_⟩
            intro x73 ex73
            have f42 : x73.toInt = x49.toInt := congrArg Int32.toInt (ex73.trans ex49.symm)
            refine ⟨i_in (by omega) (by omega), ?_⟩
            intro x81 ex81
            exact j_101 x73 x81 r64_0 r64_1 r64_2 (by omega) (by omega) (by omega) (by omega) (by omega) (by omega)
  exact ⟨(199 : Int).toNat + 1, j_26   ((199 : Int).toNat + 1) x13 x20 1 v_tree_ranges v_tree_rangeBegin v_tree_rangeEnd  (by omega) (by omega) (by omega) (by omega) (by omega) (by omega)⟩
set_option maxHeartbeats 4000000 in
theorem ok_X6_readHex {v_text_count : Int32} {v_text_items : Nat → Int32} {nv_text_items : Nat} {v_fault : Int32} {v_faultPlace : Int32} {v_at : Int32} {Q : Int32 → Int32 → Int32 → Int32 → Prop} (a0 : 0 ≤ v_text_count.toInt) (a1 : v_text_count.toInt ≤ (nv_text_items : Int)) (a2 : (nv_text_items : Int) ≤ 1000) (a3 : 0 ≤ v_at.toInt) (a4 : v_at.toInt ≤ 6000) (hq : ∀ (r : Int32) (ov_fault : Int32) (ov_faultPlace : Int32) (ov_at : Int32), v_at.toInt ≤ ov_at.toInt + 1 → v_at.toInt ≤ ov_at.toInt → ov_at.toInt ≤ v_at.toInt + 4 → ov_at.toInt ≤ v_at.toInt + 5 → ov_at.toInt ≤ v_at.toInt + 9 → ov_at.toInt ≤ v_at.toInt + 10 → ov_at.toInt ≤ v_at.toInt + 11 → ov_at.toInt ≤ v_at.toInt + 15 → ov_at.toInt ≤ v_at.toInt + 16 → ov_at.toInt ≤ v_at.toInt + 17 → ov_at.toInt ≤ v_at.toInt + 47 → ov_at.toInt ≤ v_at.toInt + 48 → ov_at.toInt ≤ v_at.toInt + 49 → ov_at.toInt ≤ v_at.toInt + 96 → ov_at.toInt ≤ v_at.toInt + 97 → ov_at.toInt ≤ v_at.toInt + 98 → ov_at.toInt ≤ v_at.toInt + 101 → ov_at.toInt ≤ v_at.toInt + 102 → ov_at.toInt ≤ v_at.toInt + 103 → 0 ≤ ov_at.toInt + 1 → 0 ≤ ov_at.toInt → v_fault.toInt ≤ ov_fault.toInt → ((ov_fault.toInt = v_fault.toInt ∧ ov_faultPlace.toInt = v_faultPlace.toInt ∧ v_at.toInt + 4 ≤ ov_at.toInt) ∨ (r.toInt = 0 ∧ ov_at.toInt ≤ v_at.toInt + 3)) → ((v_fault.toInt = 0) ∨ (ov_fault.toInt = v_fault.toInt)) → Q r ov_fault ov_faultPlace ov_at) : w_X6_readHex v_text_count v_text_items nv_text_items v_fault v_faultPlace v_at Q := by
  have q_t : (bz true).toInt = 1 := rfl
  have q_f : (bz false).toInt = 0 := rfl
  have q_0 : (0 : Int32).toInt = 0 := rfl
  have q_1 : (1 : Int32).toInt = 1 := rfl
  unfold w_X6_readHex
  have j_4 : ∀ n_4 : Nat, ∀ (l1_4 : Int32) (l2_4 : Int32) (v_at_4 : Int32), v_at_4.toInt = l2_4.toInt + v_at.toInt → v_at.toInt ≤ v_at_4.toInt → v_at_4.toInt ≤ v_at.toInt + 4 → ((-1) * l2_4.toInt + 4).toNat < n_4 → w_X6_readHex_4 v_text_count v_text_items nv_text_items Q v_fault v_faultPlace n_4 l1_4 l2_4 v_at_4 := by
    intro n_4
    induction n_4 with
    | zero =>
      intro l1_4 l2_4 v_at_4 f1 f2 f3 hm_4
      exfalso; omega
    | succ n_4 ih_4 =>
      intro l1_4 l2_4 v_at_4 f1 f2 f3 hm_4
      unfold w_X6_readHex_4
      unfold w_X6_readHex_4B
      refine ⟨fun c6 => ?_, fun c6 => ?_⟩
      · have f4 : 4 ≤ l2_4.toInt := i_le (a := 4) (b := l2_4.toInt) rfl rfl c6
        exact hq l1_4 v_fault v_faultPlace v_at_4 (by omega) (by omega) (by omega) (by omega) (by omega) (by omega) (by omega) (by omega) (by omega) (by omega) (by omega) (by omega) (by omega) (by omega) (by omega) (by omega) (by omega) (by omega) (by omega) (by omega) (by omega) (by omega) (by omega) (by omega)
      · have f5 : l2_4.toInt < 4 := i_nle (a := 4) (b := l2_4.toInt) rfl rfl c6
        refine ok_X7_at (by omega) (by omega) (by omega) (fun r17 f6 => ?_)
        refine ok_X11_isDigit  (fun r22 f7 => ?_)
        have j_80 : ∀ (l1_80 : Int32), v_at_4.toInt ≤ 6000 → w_X6_readHex_80 Q (w_X6_readHex_4 v_text_count v_text_items nv_text_items Q v_fault v_faultPlace n_4) l1_80 l2_4 v_at_4 := by
          intro l1_80 f8
          unfold w_X6_readHex_80
          intro x86 ex86
          have f9 : x86.toInt = v_at_4.toInt + 1 := i_add (a := v_at_4.toInt) (b := 1) ex86 rfl rfl (by omega) (by omega)
          intro x90 ex90
          have f10 : x90.toInt = l2_4.toInt + 1 := i_add (a := l2_4.toInt) (b := 1) ex90 rfl rfl (by omega) (by omega)
          exact ih_4 l1_80 x90 x86  (by omega) (by omega) (by omega) (by have h8_0 := i_rng l2_4; have h8_1 := i_rng x90; omega)
        refine ⟨fun c25 => ?_, fun c25 => ?_⟩
        · have f11 : r22.toInt = 0 := i_eq (a := r22.toInt) (b := 0) rfl rfl c25
          have j_69 : ((r17.toInt ≤ 96) ∨ (97 ≤ r17.toInt ∧ 103 ≤ r17.toInt)) → w_X6_readHex_69 Q v_fault v_faultPlace v_at_4 := by
            intro f12
            unfold w_X6_readHex_69
            refine ok_X6_blame  (fun r75_0 r75_1 f13 f14 => ?_)
            exact hq 0 r75_0 r75_1 v_at_4 (by omega) (by omega) (by omega) (by omega) (by omega) (by omega) (by omega) (by omega) (by omega) (by omega) (by omega) (by omega) (by omega) (by omega) (by omega) (by omega) (by omega) (by omega) (by omega) (by omega) (by omega) (by omega) (by omega) (by omega)
          refine ⟨fun c44 => ?_, fun c44 => ?_⟩
          · have f15 : r17.toInt < 97 := i_lt (a := r17.toInt) (b := 97) rfl rfl c44
            exact j_69  (by omega)
          · have f16 : 97 ≤ r17.toInt := i_nlt (a := r17.toInt) (b := 97) rfl rfl c44
            refine ⟨fun c50 => ?_, fun c50 => ?_⟩
            · have f17 : 102 < r17.toInt := i_lt (a := 102) (b := r17.toInt) rfl rfl c50
              exact j_69  (by omega)
            · have f18 : r17.toInt ≤ 102 := i_nlt (a := 102) (b := r17.toInt) rfl rfl c50
              intro x56 ex56
              intro x58 ex58
              intro x61 ex61
              intro x64 ex64
              exact j_80 x64 (by omega)
        · have f19 : r22.toInt ≠ 0 := i_ne (a := r22.toInt) (b := 0) rfl rfl c25
          intro x31 ex31
          intro x33 ex33
          intro x36 ex36
          exact j_80 x36 (by omega)
  exact ⟨(4 : Int).toNat + 1, j_4   ((4 : Int).toNat + 1) 0 0 v_at  (by omega) (by omega) (by omega) (by omega)⟩
set_option maxHeartbeats 4000000 in
theorem ok_X11_isLetter {p0 : Int32} {Q : Int32 → Prop} (hq : ∀ (r : Int32), ((r.toInt = 1) ∨ (r.toInt = 0)) → Q r) : w_X11_isLetter p0 Q := by
  have q_t : (bz true).toInt = 1 := rfl
  have q_f : (bz false).toInt = 0 := rfl
  have q_0 : (0 : Int32).toInt = 0 := rfl
  have q_1 : (1 : Int32).toInt = 1 := rfl
  unfold w_X11_isLetter
  intro x3 ex3
  have j_22 : ∀ (s0_22 : Int32), ((s0_22.toInt = 1) ∨ (s0_22.toInt = 0)) → w_X11_isLetter_22 Q s0_22 := by
    intro s0_22 f1
    unfold w_X11_isLetter_22
    refine ⟨i_01 (by omega) (by omega), ?_⟩
    exact hq s0_22 (by omega)
  have j_21 : w_X11_isLetter_21 Q := by
    unfold w_X11_isLetter_21
    exact j_22 0 (by omega)
  refine ⟨fun c8 => ?_, fun c8 => ?_⟩
  · have f2 : x3.toInt < 97 := i_lt (a := x3.toInt) (b := 97) rfl rfl c8
    exact j_21  
  · have f3 : 97 ≤ x3.toInt := i_nlt (a := x3.toInt) (b := 97) rfl rfl c8
    refine ⟨fun c14 => ?_, fun c14 => ?_⟩
    · have f4 : 122 < x3.toInt := i_lt (a := 122) (b := x3.toInt) rfl rfl c14
      exact j_21  
    · have f5 : x3.toInt ≤ 122 := i_nlt (a := 122) (b := x3.toInt) rfl rfl c14
      exact j_22 1 (by omega)
set_option maxHeartbeats 4000000 in
theorem ok_X6_readMember {v_text_count : Int32} {v_text_items : Nat → Int32} {nv_text_items : Nat} {v_fault : Int32} {v_faultPlace : Int32} {v_at : Int32} {Q : Int32 → Int32 → Int32 → Int32 → Prop} (a0 : 0 ≤ v_text_count.toInt) (a1 : v_text_count.toInt ≤ (nv_text_items : Int)) (a2 : (nv_text_items : Int) ≤ 1000) (a3 : 0 ≤ v_at.toInt) (a4 : v_at.toInt ≤ 5900) (hq : ∀ (r : Int32) (ov_fault : Int32) (ov_faultPlace : Int32) (ov_at : Int32), v_at.toInt + 1 ≤ ov_at.toInt → ov_at.toInt ≤ v_at.toInt + 7 → v_fault.toInt ≤ ov_fault.toInt → ((v_fault.toInt = 0) ∨ (ov_fault.toInt = v_fault.toInt)) → ov_at.toInt ≤ v_at.toInt + 6 → Q r ov_fault ov_faultPlace ov_at) : w_X6_readMember v_text_count v_text_items nv_text_items v_fault v_faultPlace v_at Q := by
  have q_t : (bz true).toInt = 1 := rfl
  have q_f : (bz false).toInt = 0 := rfl
  have q_1 : (1 : Int32).toInt = 1 := rfl
  unfold w_X6_readMember
  refine ok_X6_here (by omega) (by omega) (by omega) (fun r1 f1 => ?_)
  have j_120 : ∀ (l1_120 : Int32) (v_fault_120 : Int32) (v_faultPlace_120 : Int32) (v_at_120 : Int32), v_fault.toInt ≤ v_fault_120.toInt → v_at.toInt ≤ v_at_120.toInt → v_at_120.toInt ≤ v_at.toInt + 6 → ((v_fault.toInt = 0) ∨ (v_fault_120.toInt = v_fault.toInt)) → v_at_120.toInt ≤ 5900 → v_at_120.toInt ≤ v_at.toInt + 1 → w_X6_readMember_120 Q l1_120 v_fault_120 v_faultPlace_120 v_at_120 := by
    intro l1_120 v_fault_120 v_faultPlace_120 v_at_120 f2 f3 f4 f5 f6 f7
    unfold w_X6_readMember_120
    intro x126 ex126
    have f8 : x126.toInt = v_at_120.toInt + 1 := i_add (a := v_at_120.toInt) (b := 1) ex126 rfl rfl (by omega) (by omega)
    exact hq l1_120 v_fault_120 v_faultPlace_120 x126 (by omega) (by omega) (by omega) (by omega) (by omega)
  refine ⟨fun c8 => ?_, fun c8 => ?_⟩
  · have f9 : r1.toInt ≠ 92 := i_ne (a := r1.toInt) (b := 92) rfl rfl c8
    refine ok_X11_isTapeSign  (fun r81 f10 => ?_)
    have j_111 : w_X6_readMember_111 Q r1 v_fault v_faultPlace v_at := by
      unfold w_X6_readMember_111
      refine ok_X6_blame  (fun r117_0 r117_1 f11 f12 => ?_)
      exact j_120 r1 r117_0 r117_1 v_at (by omega) (by omega) (by omega) (by omega) (by omega) (by omega)
    refine ⟨fun c84 => ?_, fun c84 => ?_⟩
    · have f13 : r81.toInt = 0 := i_eq (a := r81.toInt) (b := 0) rfl rfl c84
      exact j_111  
    · have f14 : r81.toInt ≠ 0 := i_ne (a := r81.toInt) (b := 0) rfl rfl c84
      refine ⟨fun c90 => ?_, fun c90 => ?_⟩
      · have f15 : r1.toInt = 91 := i_eq (a := r1.toInt) (b := 91) rfl rfl c90
        exact j_111  
      · have f16 : r1.toInt ≠ 91 := i_ne (a := r1.toInt) (b := 91) rfl rfl c90
        refine ⟨fun c96 => ?_, fun c96 => ?_⟩
        · have f17 : r1.toInt = 93 := i_eq (a := r1.toInt) (b := 93) rfl rfl c96
          exact j_111  
        · have f18 : r1.toInt ≠ 93 := i_ne (a := r1.toInt) (b := 93) rfl rfl c96
          refine ⟨fun c102 => ?_, fun c102 => ?_⟩
          · have f19 : r1.toInt = 94 := i_eq (a := r1.toInt) (b := 94) rfl rfl c102
            exact j_111  
          · have f20 : r1.toInt ≠ 94 := i_ne (a := r1.toInt) (b := 94) rfl rfl c102
            refine ⟨fun c108 => ?_, fun c108 => ?_⟩
            · have f21 : r1.toInt ≠ 45 := i_ne (a := r1.toInt) (b := 45) rfl rfl c108
              exact j_120 r1 v_fault v_faultPlace v_at (by omega) (by omega) (by omega) (by omega) (by omega) (by omega)
            · have f22 : r1.toInt = 45 := i_eq (a := r1.toInt) (b := 45) rfl rfl c108
              exact j_111  
  · have f23 : r1.toInt = 92 := i_eq (a := r1.toInt) (b := 92) rfl rfl c8
    intro x17 ex17
    have f24 : x17.toInt = v_at.toInt + 1 := i_add (a := v_at.toInt) (b := 1) ex17 rfl rfl (by omega) (by omega)
    refine ok_X6_here (by omega) (by omega) (by omega) (fun r22 f25 => ?_)
    refine ⟨fun c29 => ?_, fun c29 => ?_⟩
    · have f26 : r22.toInt ≠ 120 := i_ne (a := r22.toInt) (b := 120) rfl rfl c29
      refine ok_X11_isTapeSign  (fun r48 f27 => ?_)
      have j_68 : w_X6_readMember_68 Q r22 v_fault v_faultPlace x17 := by
        unfold w_X6_readMember_68
        refine ok_X6_blame  (fun r74_0 r74_1 f28 f29 => ?_)
        exact j_120 r22 r74_0 r74_1 x17 (by omega) (by omega) (by omega) (by omega) (by omega) (by omega)
      refine ⟨fun c51 => ?_, fun c51 => ?_⟩
      · have f30 : r48.toInt = 0 := i_eq (a := r48.toInt) (b := 0) rfl rfl c51
        exact j_68  
      · have f31 : r48.toInt ≠ 0 := i_ne (a := r48.toInt) (b := 0) rfl rfl c51
        refine ok_X11_isLetter  (fun r55 f32 => ?_)
        refine ⟨fun c58 => ?_, fun c58 => ?_⟩
        · have f33 : r55.toInt ≠ 0 := i_ne (a := r55.toInt) (b := 0) rfl rfl c58
          exact j_68  
        · have f34 : r55.toInt = 0 := i_eq (a := r55.toInt) (b := 0) rfl rfl c58
          refine ok_X11_isDigit  (fun r62 f35 => ?_)
          refine ⟨fun c65 => ?_, fun c65 => ?_⟩
          · have f36 : r62.toInt = 0 := i_eq (a := r62.toInt) (b := 0) rfl rfl c65
            exact j_120 r22 v_fault v_faultPlace x17 (by omega) (by omega) (by omega) (by omega) (by omega) (by omega)
          · have f37 : r62.toInt ≠ 0 := i_ne (a := r62.toInt) (b := 0) rfl rfl c65
            exact j_68  
    · have f38 : r22.toInt = 120 := i_eq (a := r22.toInt) (b := 120) rfl rfl c29
      intro x38 ex38
      have f39 : x38.toInt = x17.toInt + 1 := i_add (a := x17.toInt) (b := 1) ex38 rfl rfl (by omega) (by omega)
      refine ok_X6_readHex (by omega) (by omega) (by omega) (by omega) (by omega) (fun r43 r43_0 r43_1 r43_2 f40 f41 f42 f43 f44 f45 f46 f47 f48 f49 f50 f51 f52 f53 f54 f55 f56 f57 f58 f59 f60 f61 f62 f63 => ?_)
      exact hq r43 r43_0 r43_1 r43_2 (by omega) (by omega) (by omega) (by omega) (by omega)
set_option maxHeartbeats 4000000 in
theorem ok_X6_readPart {v_text_count : Int32} {v_text_items : Nat → Int32} {nv_text_items : Nat} {v_fault : Int32} {v_faultPlace : Int32} {v_at : Int32} {v_partCount : Int32} {v_partBegin : Nat → Int32} {v_partEnd : Nat → Int32} {Q : Int32 → Int32 → Int32 → Int32 → (Nat → Int32) → (Nat → Int32) → Prop} (a0 : 0 ≤ v_text_count.toInt) (a1 : v_text_count.toInt ≤ (nv_text_items : Int)) (a2 : (nv_text_items : Int) ≤ 1000) (a3 : 0 ≤ v_partCount.toInt) (a4 : v_partCount.toInt ≤ 200) (a5 : 0 ≤ v_at.toInt) (a6 : v_at.toInt ≤ 5800) (hq : ∀ (ov_fault : Int32) (ov_faultPlace : Int32) (ov_at : Int32) (ov_partCount : Int32) (ov_partBegin : Nat → Int32) (ov_partEnd : Nat → Int32), v_fault.toInt ≤ ov_fault.toInt → v_at.toInt ≤ ov_at.toInt → ov_at.toInt ≤ v_at.toInt + 13 → ((v_fault.toInt = 0) ∨ (ov_fault.toInt = v_fault.toInt)) → 1 ≤ ov_at.toInt → v_partCount.toInt ≤ ov_partCount.toInt → ((ov_partCount.toInt = v_partCount.toInt ∧ 200 ≤ v_partCount.toInt) ∨ (v_partCount.toInt ≤ 199 ∧ ov_partCount.toInt = v_partCount.toInt + 1)) → Q ov_fault ov_faultPlace ov_at ov_partCount ov_partBegin ov_partEnd) : w_X6_readPart v_text_count v_text_items nv_text_items v_fault v_faultPlace v_at v_partCount v_partBegin v_partEnd Q := by
  have q_t : (bz true).toInt = 1 := rfl
  have q_f : (bz false).toInt = 0 := rfl
  have q_3 : (3 : Int32).toInt = 3 := rfl
  unfold w_X6_readPart
  refine ok_X6_readMember (by omega) (by omega) (by omega) (by omega) (by omega) (fun r1 r1_0 r1_1 r1_2 f1 f2 f3 f4 f5 => ?_)
  have j_54 : ∀ (l2_54 : Int32) (v_fault_54 : Int32) (v_faultPlace_54 : Int32) (v_at_54 : Int32), v_fault.toInt ≤ v_fault_54.toInt → v_at.toInt ≤ v_at_54.toInt → v_at_54.toInt ≤ v_at.toInt + 13 → ((v_fault.toInt = 0) ∨ (v_fault_54.toInt = v_fault.toInt)) → 1 ≤ v_at_54.toInt → w_X6_readPart_54 Q r1 l2_54 v_fault_54 v_faultPlace_54 v_at_54 v_partCount v_partBegin v_partEnd := by
    intro l2_54 v_fault_54 v_faultPlace_54 v_at_54 f6 f7 f8 f9 f10
    unfold w_X6_readPart_54
    refine ok_X6_addPart (by omega) (by omega) (fun r57_0 r57_1 r57_2 f11 f12 => ?_)
    exact hq v_fault_54 v_faultPlace_54 v_at_54 r57_0 r57_1 r57_2 (by omega) (by omega) (by omega) (by omega) (by omega) (by omega) (by omega)
  refine ⟨fun c11 => ?_, fun c11 => ?_⟩
  · have f13 : r1_0.toInt ≠ 0 := i_ne (a := r1_0.toInt) (b := 0) rfl rfl c11
    exact j_54 r1 r1_0 r1_1 r1_2 (by omega) (by omega) (by omega) (by omega) (by omega)
  · have f14 : r1_0.toInt = 0 := i_eq (a := r1_0.toInt) (b := 0) rfl rfl c11
    refine ok_X6_here (by omega) (by omega) (by omega) (fun r15 f15 => ?_)
    refine ⟨fun c20 => ?_, fun c20 => ?_⟩
    · have f16 : r15.toInt ≠ 45 := i_ne (a := r15.toInt) (b := 45) rfl rfl c20
      exact j_54 r1 r1_0 r1_1 r1_2 (by omega) (by omega) (by omega) (by omega) (by omega)
    · have f17 : r15.toInt = 45 := i_eq (a := r15.toInt) (b := 45) rfl rfl c20
      intro x29 ex29
      have f18 : x29.toInt = r1_2.toInt + 1 := i_add (a := r1_2.toInt) (b := 1) ex29 rfl rfl (by omega) (by omega)
      refine ok_X6_readMember (by omega) (by omega) (by omega) (by omega) (by omega) (fun r39 r39_0 r39_1 r39_2 f19 f20 f21 f22 f23 => ?_)
      refine ⟨fun c45 => ?_, fun c45 => ?_⟩
      · have f24 : r1.toInt ≤ r39.toInt := i_le (a := r1.toInt) (b := r39.toInt) rfl rfl c45
        exact j_54 r39 r39_0 r39_1 r39_2 (by omega) (by omega) (by omega) (by omega) (by omega)
      · have f25 : r39.toInt < r1.toInt := i_nle (a := r1.toInt) (b := r39.toInt) rfl rfl c45
        refine ok_X6_blame  (fun r51_0 r51_1 f26 f27 => ?_)
        exact j_54 r39 r51_0 r51_1 r39_2 (by omega) (by omega) (by omega) (by omega) (by omega)
set_option maxHeartbeats 4000000 in
theorem ok_X6_addPending {v_count : Int32} {v_nextPart : Nat → Int32} {a1_pending : Int32} {a1_rowFirst : Int32} {a1_rowLast : Int32} {a1_rowCount : Int32} {a1_choiceFirst : Int32} {a1_choiceLast : Int32} {gb : Int} {Q : (Nat → Int32) → Int32 → Int32 → Int32 → Int32 → Prop} (a0 : 0 ≤ v_count.toInt) (a1 : v_count.toInt ≤ 256) (b0 : rp (fun k v => v = -1 ∨ k < v) v_nextPart 0 v_count.toInt) (u0 : zrJ gb v_count.toInt a1_pending a1_rowFirst a1_rowLast a1_choiceFirst a1_choiceLast) (hq : ∀ (ov_nextPart : Nat → Int32) (oa1_pending : Int32) (oa1_rowFirst : Int32) (oa1_rowLast : Int32) (oa1_rowCount : Int32), ((oa1_pending.toInt = a1_pending.toInt ∧ oa1_rowFirst.toInt = a1_rowFirst.toInt ∧ oa1_rowLast.toInt = a1_rowLast.toInt ∧ oa1_rowCount.toInt = a1_rowCount.toInt ∧ a1_pending.toInt + 1 = 0) ∨ (oa1_pending.toInt + 1 = 0 ∧ oa1_rowLast.toInt = a1_pending.toInt)) → ((oa1_rowFirst.toInt = a1_rowFirst.toInt) ∨ (oa1_rowFirst.toInt = a1_pending.toInt)) → rp (fun k v => v = -1 ∨ k < v) ov_nextPart 0 v_count.toInt → rp (fun k v => v = -1 ∨ k < v) ov_nextPart (oa1_pending.toInt + 1) v_count.toInt → (zrJ gb v_count.toInt oa1_pending oa1_rowFirst oa1_rowLast a1_choiceFirst a1_choiceLast) → Q ov_nextPart oa1_pending oa1_rowFirst oa1_rowLast oa1_rowCount) : w_X6_addPending v_nextPart a1_pending a1_rowFirst a1_rowLast a1_rowCount Q := by
  have q_t : (bz true).toInt = 1 := rfl
  have q_f : (bz false).toInt = 0 := rfl
  have q_m1 : ((-1) : Int32).toInt = (-1) := rfl
  unfold w_X6_addPending
  refine ⟨fun c5 => ?_, fun c5 => ?_⟩
  · have f1 : a1_pending.toInt ≠ (-1) := i_ne (a := a1_pending.toInt) (b := (-1)) rfl rfl c5
    have j_50 : ∀ (v_nextPart_50 : Nat → Int32) (a1_rowFirst_50 : Int32), ((a1_rowFirst_50.toInt = a1_rowFirst.toInt) ∨ (a1_rowFirst_50.toInt = a1_pending.toInt)) → ((a1_rowFirst_50.toInt = a1_rowFirst.toInt ∧ 0 ≤ a1_rowLast.toInt ∧ a1_rowLast.toInt ≤ 255 ∧ a1_rowLast.toInt + 1 ≤ a1_pending.toInt) ∨ (a1_rowFirst_50.toInt = a1_pending.toInt)) → rp (fun k v => v = -1 ∨ k < v) v_nextPart_50 0 v_count.toInt → w_X6_addPending_50 Q v_nextPart_50 a1_pending a1_rowFirst_50 a1_rowLast a1_rowCount := by
      intro v_nextPart_50 a1_rowFirst_50 f2 f3 h4
      unfold w_X6_addPending_50
      intro x64 ex64
      exact hq v_nextPart_50 (-1) a1_rowFirst_50 a1_pending x64 (by omega) (by omega) (rp_mono h4 (by omega) (by omega)) (rp_mono h4 (by omega) (by omega)) (by exact zrJ_p u0 (by omega) rfl rfl (by omega))
    have j_42 : ((a1_rowLast.toInt + 1 ≤ 0) ∨ (0 ≤ a1_rowLast.toInt ∧ 256 ≤ a1_rowLast.toInt)) → w_X6_addPending_42 Q v_nextPart a1_pending a1_rowFirst a1_rowLast a1_rowCount := by
      intro f5
      unfold w_X6_addPending_42
      exact j_50 v_nextPart a1_pending (by omega) (by omega) (rp_mono b0 (by omega) (by omega))
    refine ⟨fun c13 => ?_, fun c13 => ?_⟩
    · have f6 : a1_rowLast.toInt < 0 := i_lt (a := a1_rowLast.toInt) (b := 0) rfl rfl c13
      exact j_42  (by omega)
    · have f7 : 0 ≤ a1_rowLast.toInt := i_nlt (a := a1_rowLast.toInt) (b := 0) rfl rfl c13
      refine ⟨fun c23 => ?_, fun c23 => ?_⟩
      · have f8 : 256 ≤ a1_rowLast.toInt := i_le (a := 256) (b := a1_rowLast.toInt) rfl rfl c23
        exact j_42  (by omega)
      · have f9 : a1_rowLast.toInt < 256 := i_nle (a := 256) (b := a1_rowLast.toInt) rfl rfl c23
        have f10 : a1_rowLast.toInt + 1 ≤ a1_pending.toInt := by unfold zrJ at u0; omega
        refine ⟨i_in (by omega) (by omega), ?_⟩
        intro g38 eg38
        have h11 : rp (fun k v => v = -1 ∨ k < v) g38 0 v_count.toInt := rp_upd (P := (fun k v => v = -1 ∨ k < v)) (a := a1_rowLast.toInt) (b := a1_pending.toInt) b0 eg38 rfl rfl (by omega) (by omega)
        exact j_50 g38 a1_rowFirst (by omega) (by omega) (rp_mono h11 (by omega) (by omega))
  · have f12 : a1_pending.toInt = (-1) := i_eq (a := a1_pending.toInt) (b := (-1)) rfl rfl c5
    exact hq v_nextPart a1_pending a1_rowFirst a1_rowLast a1_rowCount (by omega) (by omega) (rp_mono b0 (by omega) (by omega)) (rp_mono b0 (by omega) (by omega)) (by exact u0)
set_option maxHeartbeats 4000000 in
theorem ok_X6_readName {v_text_count : Int32} {v_text_items : Nat → Int32} {nv_text_items : Nat} {v_fault : Int32} {v_faultPlace : Int32} {v_at : Int32} {v_tree_captures : Int32} {v_captureOfName : Nat → Int32} {Q : Int32 → Int32 → Int32 → Int32 → (Nat → Int32) → Prop} (a0 : 0 ≤ v_text_count.toInt) (a1 : v_text_count.toInt ≤ (nv_text_items : Int)) (a2 : (nv_text_items : Int) ≤ 1000) (a3 : 0 ≤ v_at.toInt) (a4 : v_at.toInt ≤ 5000) (hq : ∀ (r : Int32) (ov_fault : Int32) (ov_faultPlace : Int32) (ov_at : Int32) (ov_captureOfName : Nat → Int32), v_fault.toInt ≤ ov_fault.toInt → v_at.toInt ≤ ov_at.toInt → ((r.toInt = 0 ∧ ov_at.toInt = v_at.toInt) ∨ (v_fault.toInt ≤ ov_fault.toInt ∧ ov_at.toInt = v_at.toInt + 1)) → 0 ≤ r.toInt → r.toInt ≤ 122 → ((v_fault.toInt = 0) ∨ (ov_fault.toInt = v_fault.toInt)) → Q r ov_fault ov_faultPlace ov_at ov_captureOfName) : w_X6_readName v_text_count v_text_items nv_text_items v_fault v_faultPlace v_at v_tree_captures v_captureOfName Q := by
  have q_t : (bz true).toInt = 1 := rfl
  have q_f : (bz false).toInt = 0 := rfl
  have q_0 : (0 : Int32).toInt = 0 := rfl
  have q_1 : (1 : Int32).toInt = 1 := rfl
  have q_3 : (3 : Int32).toInt = 3 := rfl
  unfold w_X6_readName
  refine ok_X6_here (by omega) (by omega) (by omega) (fun r1 f1 => ?_)
  refine ok_X11_isSmall  (fun r6 f2 => ?_)
  refine ⟨fun c9 => ?_, fun c9 => ?_⟩
  · have f3 : r6.toInt ≠ 0 := i_ne (a := r6.toInt) (b := 0) rfl rfl c9
    intro x30 ex30
    have f4 : x30.toInt = r1.toInt - 97 := i_sub (a := r1.toInt) (b := 97) ex30 rfl rfl (by omega) (by omega)
    refine ⟨i_in (by omega) (by omega), ?_⟩
    intro x31 ex31
    have j_44 : ∀ (v_fault_44 : Int32) (v_faultPlace_44 : Int32), v_fault.toInt ≤ v_fault_44.toInt → ((v_fault.toInt = 0) ∨ (v_fault_44.toInt = v_fault.toInt)) → w_X6_readName_44 v_tree_captures Q r1 v_fault_44 v_faultPlace_44 v_at v_captureOfName := by
      intro v_fault_44 v_faultPlace_44 f5 f6
      unfold w_X6_readName_44
      intro x51 ex51
      have f7 : x51.toInt = r1.toInt - 97 := i_sub (a := r1.toInt) (b := 97) ex51 rfl rfl (by omega) (by omega)
      refine ⟨i_in (by omega) (by omega), ?_⟩
      intro g59 eg59
      intro x66 ex66
      have f8 : x66.toInt = v_at.toInt + 1 := i_add (a := v_at.toInt) (b := 1) ex66 rfl rfl (by omega) (by omega)
      exact hq r1 v_fault_44 v_faultPlace_44 x66 g59 (by omega) (by omega) (by omega) (by omega) (by omega) (by omega)
    refine ⟨fun c32 => ?_, fun c32 => ?_⟩
    · have f9 : x31.toInt = 0 := i_eq (a := x31.toInt) (b := 0) rfl rfl c32
      exact j_44 v_fault v_faultPlace (by omega) (by omega)
    · have f10 : x31.toInt ≠ 0 := i_ne (a := x31.toInt) (b := 0) rfl rfl c32
      refine ok_X6_blame  (fun r41_0 r41_1 f11 f12 => ?_)
      exact j_44 r41_0 r41_1 (by omega) (by omega)
  · have f13 : r6.toInt = 0 := i_eq (a := r6.toInt) (b := 0) rfl rfl c9
    refine ok_X6_blame  (fun r18_0 r18_1 f14 f15 => ?_)
    exact hq 0 r18_0 r18_1 v_at v_captureOfName (by omega) (by omega) (by omega) (by omega) (by omega) (by omega)
set_option maxHeartbeats 4000000 in
theorem ok_X6_readNumber {p1 : Int32} {v_text_count : Int32} {v_text_items : Nat → Int32} {nv_text_items : Nat} {v_fault : Int32} {v_faultPlace : Int32} {v_at : Int32} {Q : Int32 → Int32 → Int32 → Int32 → Prop} (a0 : 0 ≤ v_text_count.toInt) (a1 : v_text_count.toInt ≤ (nv_text_items : Int)) (a2 : (nv_text_items : Int) ≤ 1000) (a3 : 0 ≤ v_at.toInt) (a4 : v_at.toInt ≤ 5900) (hq : ∀ (r : Int32) (ov_fault : Int32) (ov_faultPlace : Int32) (ov_at : Int32), v_fault.toInt ≤ ov_fault.toInt → v_at.toInt ≤ ov_at.toInt → ((r.toInt = 0 ∧ ov_at.toInt = v_at.toInt) ∨ (v_at.toInt ≤ ov_at.toInt ∧ ov_at.toInt ≤ v_at.toInt + 2 ∧ ov_at.toInt ≤ 1000 ∧ v_fault.toInt ≤ ov_fault.toInt)) → ((v_fault.toInt = 0) ∨ (ov_fault.toInt = v_fault.toInt)) → Q r ov_fault ov_faultPlace ov_at) : w_X6_readNumber p1 v_text_count v_text_items nv_text_items v_fault v_faultPlace v_at Q := by
  have q_t : (bz true).toInt = 1 := rfl
  have q_f : (bz false).toInt = 0 := rfl
  have q_0 : (0 : Int32).toInt = 0 := rfl
  have q_1 : (1 : Int32).toInt = 1 := rfl
  have q_3 : (3 : Int32).toInt = 3 := rfl
  unfold w_X6_readNumber
  refine ok_X6_here (by omega) (by omega) (by omega) (fun r6 f1 => ?_)
  refine ok_X11_isDigit  (fun r9 f2 => ?_)
  refine ⟨fun c12 => ?_, fun c12 => ?_⟩
  · have f3 : r9.toInt ≠ 0 := i_ne (a := r9.toInt) (b := 0) rfl rfl c12
    refine ok_X6_here (by omega) (by omega) (by omega) (fun r27 f4 => ?_)
    intro x32 ex32
    intro x40 ex40
    have f5 : x40.toInt = v_at.toInt + 1 := i_add (a := v_at.toInt) (b := 1) ex40 rfl rfl (by omega) (by omega)
    refine ok_X6_here (by omega) (by omega) (by omega) (fun r45 f6 => ?_)
    refine ok_X11_isDigit  (fun r48 f7 => ?_)
    have j_77 : ∀ (l3_77 : Int32) (v_at_77 : Int32), v_at.toInt ≤ v_at_77.toInt → v_at_77.toInt ≤ v_at.toInt + 2 → ((v_at_77.toInt = x40.toInt ∧ r48.toInt = 0) ∨ (v_at_77.toInt = x40.toInt + 1)) → v_at_77.toInt ≤ 1000 → w_X6_readNumber_77 p1 Q v_at l3_77 v_fault v_faultPlace v_at_77 := by
      intro l3_77 v_at_77 f8 f9 f10 f11
      unfold w_X6_readNumber_77
      have j_94 : ∀ (v_fault_94 : Int32) (v_faultPlace_94 : Int32), v_fault.toInt ≤ v_fault_94.toInt → ((v_fault.toInt = 0) ∨ (v_fault_94.toInt = v_fault.toInt)) → w_X6_readNumber_94 Q l3_77 v_fault_94 v_faultPlace_94 v_at_77 := by
        intro v_fault_94 v_faultPlace_94 f12 f13
        unfold w_X6_readNumber_94
        exact hq l3_77 v_fault_94 v_faultPlace_94 v_at_77 (by omega) (by omega) (by omega) (by omega)
      have j_88 : ((21 ≤ l3_77.toInt) ∨ (l3_77.toInt ≤ 20 ∧ l3_77.toInt + 1 ≤ p1.toInt)) → w_X6_readNumber_88 Q v_at l3_77 v_fault v_faultPlace v_at_77 := by
        intro f14
        unfold w_X6_readNumber_88
        refine ok_X6_blame  (fun r91_0 r91_1 f15 f16 => ?_)
        exact j_94 r91_0 r91_1 (by omega) (by omega)
      refine ⟨fun c80 => ?_, fun c80 => ?_⟩
      · have f17 : 20 < l3_77.toInt := i_lt (a := 20) (b := l3_77.toInt) rfl rfl c80
        exact j_88  (by omega)
      · have f18 : l3_77.toInt ≤ 20 := i_nlt (a := 20) (b := l3_77.toInt) rfl rfl c80
        refine ⟨fun c85 => ?_, fun c85 => ?_⟩
        · have f19 : p1.toInt ≤ l3_77.toInt := i_le (a := p1.toInt) (b := l3_77.toInt) rfl rfl c85
          exact j_94 v_fault v_faultPlace (by omega) (by omega)
        · have f20 : l3_77.toInt < p1.toInt := i_nle (a := p1.toInt) (b := l3_77.toInt) rfl rfl c85
          exact j_88  (by omega)
    refine ⟨fun c51 => ?_, fun c51 => ?_⟩
    · have f21 : r48.toInt = 0 := i_eq (a := r48.toInt) (b := 0) rfl rfl c51
      exact j_77 x32 x40 (by omega) (by omega) (by omega) (by omega)
    · have f22 : r48.toInt ≠ 0 := i_ne (a := r48.toInt) (b := 0) rfl rfl c51
      intro x57 ex57
      refine ok_X6_here (by omega) (by omega) (by omega) (fun r59 f23 => ?_)
      intro x62 ex62
      intro x65 ex65
      intro x73 ex73
      have f24 : x73.toInt = x40.toInt + 1 := i_add (a := x40.toInt) (b := 1) ex73 rfl rfl (by omega) (by omega)
      exact j_77 x65 x73 (by omega) (by omega) (by omega) (by omega)
  · have f25 : r9.toInt = 0 := i_eq (a := r9.toInt) (b := 0) rfl rfl c12
    refine ok_X6_blame  (fun r21_0 r21_1 f26 f27 => ?_)
    exact hq 0 r21_0 r21_1 v_at (by omega) (by omega) (by omega) (by omega)
set_option maxHeartbeats 4000000 in
theorem ok_X6_readMost {p1 : Int32} {v_text_count : Int32} {v_text_items : Nat → Int32} {nv_text_items : Nat} {v_fault : Int32} {v_faultPlace : Int32} {v_at : Int32} {Q : Int32 → Int32 → Int32 → Int32 → Prop} (a0 : 0 ≤ v_text_count.toInt) (a1 : v_text_count.toInt ≤ (nv_text_items : Int)) (a2 : (nv_text_items : Int) ≤ 1000) (a3 : 0 ≤ v_at.toInt) (a4 : v_at.toInt ≤ 5800) (hq : ∀ (r : Int32) (ov_fault : Int32) (ov_faultPlace : Int32) (ov_at : Int32), v_at.toInt + 1 ≤ ov_at.toInt → ov_at.toInt ≤ v_at.toInt + 5 → ov_at.toInt ≤ 5801 → ov_at.toInt ≤ v_at.toInt + 4 → v_fault.toInt ≤ ov_fault.toInt → ((v_fault.toInt = 0) ∨ (ov_fault.toInt = v_fault.toInt)) → Q r ov_fault ov_faultPlace ov_at) : w_X6_readMost p1 v_text_count v_text_items nv_text_items v_fault v_faultPlace v_at Q := by
  have q_t : (bz true).toInt = 1 := rfl
  have q_f : (bz false).toInt = 0 := rfl
  have q_m1 : ((-1) : Int32).toInt = (-1) := rfl
  have q_1 : (1 : Int32).toInt = 1 := rfl
  unfold w_X6_readMost
  have j_47 : ∀ (l2_47 : Int32) (v_fault_47 : Int32) (v_faultPlace_47 : Int32) (v_at_47 : Int32), v_fault.toInt ≤ v_fault_47.toInt → v_at.toInt ≤ v_at_47.toInt → v_at_47.toInt ≤ v_at.toInt + 4 → ((v_fault.toInt = 0) ∨ (v_fault_47.toInt = v_fault.toInt)) → v_at_47.toInt ≤ 5800 → v_at_47.toInt ≤ v_at.toInt + 3 → w_X6_readMost_47 v_text_count v_text_items nv_text_items Q l2_47 v_fault_47 v_faultPlace_47 v_at_47 := by
    intro l2_47 v_fault_47 v_faultPlace_47 v_at_47 f1 f2 f3 f4 f5 f6
    unfold w_X6_readMost_47
    refine ok_X6_here (by omega) (by omega) (by omega) (fun r48 f7 => ?_)
    have j_65 : ∀ (v_fault_65 : Int32) (v_faultPlace_65 : Int32), v_fault.toInt ≤ v_fault_65.toInt → ((v_fault.toInt = 0) ∨ (v_fault_65.toInt = v_fault.toInt)) → w_X6_readMost_65 Q l2_47 v_fault_65 v_faultPlace_65 v_at_47 := by
      intro v_fault_65 v_faultPlace_65 f8 f9
      unfold w_X6_readMost_65
      intro x71 ex71
      have f10 : x71.toInt = v_at_47.toInt + 1 := i_add (a := v_at_47.toInt) (b := 1) ex71 rfl rfl (by omega) (by omega)
      exact hq l2_47 v_fault_65 v_faultPlace_65 x71 (by omega) (by omega) (by omega) (by omega) (by omega) (by omega)
    refine ⟨fun c53 => ?_, fun c53 => ?_⟩
    · have f11 : r48.toInt = 125 := i_eq (a := r48.toInt) (b := 125) rfl rfl c53
      exact j_65 v_fault_47 v_faultPlace_47 (by omega) (by omega)
    · have f12 : r48.toInt ≠ 125 := i_ne (a := r48.toInt) (b := 125) rfl rfl c53
      refine ok_X6_blame  (fun r62_0 r62_1 f13 f14 => ?_)
      exact j_65 r62_0 r62_1 (by omega) (by omega)
  refine ⟨fun c6 => ?_, fun c6 => ?_⟩
  · have f15 : v_fault.toInt ≠ 0 := i_ne (a := v_fault.toInt) (b := 0) rfl rfl c6
    exact j_47 p1 v_fault v_faultPlace v_at (by omega) (by omega) (by omega) (by omega) (by omega) (by omega)
  · have f16 : v_fault.toInt = 0 := i_eq (a := v_fault.toInt) (b := 0) rfl rfl c6
    refine ok_X6_here (by omega) (by omega) (by omega) (fun r10 f17 => ?_)
    refine ⟨fun c15 => ?_, fun c15 => ?_⟩
    · have f18 : r10.toInt ≠ 44 := i_ne (a := r10.toInt) (b := 44) rfl rfl c15
      exact j_47 p1 v_fault v_faultPlace v_at (by omega) (by omega) (by omega) (by omega) (by omega) (by omega)
    · have f19 : r10.toInt = 44 := i_eq (a := r10.toInt) (b := 44) rfl rfl c15
      intro x24 ex24
      have f20 : x24.toInt = v_at.toInt + 1 := i_add (a := v_at.toInt) (b := 1) ex24 rfl rfl (by omega) (by omega)
      refine ok_X6_here (by omega) (by omega) (by omega) (fun r29 f21 => ?_)
      have j_46 : ∀ (s0_46 : Int32) (v_fault_46 : Int32) (v_faultPlace_46 : Int32) (v_at_46 : Int32), v_fault.toInt ≤ v_fault_46.toInt → v_at.toInt ≤ v_at_46.toInt → v_at.toInt + 1 ≤ v_at_46.toInt → v_at_46.toInt ≤ v_at.toInt + 4 → v_at_46.toInt ≤ v_at.toInt + 3 → ((v_fault.toInt ≤ v_fault_46.toInt ∧ x24.toInt ≤ v_at_46.toInt) ∨ (s0_46.toInt + 1 = 0 ∧ v_fault_46.toInt = v_fault.toInt ∧ v_faultPlace_46.toInt = v_faultPlace.toInt ∧ v_at_46.toInt = x24.toInt ∧ r29.toInt = 125)) → v_at_46.toInt ≤ 1000 → w_X6_readMost_46 v_text_count v_text_items nv_text_items Q s0_46 v_fault_46 v_faultPlace_46 v_at_46 := by
        intro s0_46 v_fault_46 v_faultPlace_46 v_at_46 f22 f23 f24 f25 f26 f27 f28
        unfold w_X6_readMost_46
        exact j_47 s0_46 v_fault_46 v_faultPlace_46 v_at_46 (by omega) (by omega) (by omega) (by omega) (by omega) (by omega)
      refine ⟨fun c34 => ?_, fun c34 => ?_⟩
      · have f29 : r29.toInt ≠ 125 := i_ne (a := r29.toInt) (b := 125) rfl rfl c34
        refine ok_X6_readNumber (by omega) (by omega) (by omega) (by omega) (by omega) (fun r43 r43_0 r43_1 r43_2 f30 f31 f32 f33 => ?_)
        exact j_46 r43 r43_0 r43_1 r43_2 (by omega) (by omega) (by omega) (by omega) (by omega) (by omega) (by omega)
      · have f34 : r29.toInt = 125 := i_eq (a := r29.toInt) (b := 125) rfl rfl c34
        exact j_46 (-1) v_fault v_faultPlace x24 (by omega) (by omega) (by omega) (by omega) (by omega) (by omega) (by omega)
set_option maxHeartbeats 4000000 in
theorem ok_X2_beginRow  {Q : Int32 → Bool → Int32 → Int32 → Int32 → Prop} (hq : ∀ (ov_pending : Int32) (ov_loopable : Bool) (ov_rowFirst : Int32) (ov_rowLast : Int32) (ov_rowCount : Int32), ov_pending.toInt + 1 = 0 → (bz ov_loopable).toInt = 0 → ov_rowFirst.toInt + 1 = 0 → ov_rowLast.toInt + 1 = 0 → ov_rowCount.toInt = 0 → Q ov_pending ov_loopable ov_rowFirst ov_rowLast ov_rowCount) : w_X2_beginRow  Q := by
  have q_t : (bz true).toInt = 1 := rfl
  have q_f : (bz false).toInt = 0 := rfl
  have q_m1 : ((-1) : Int32).toInt = (-1) := rfl
  have q_0 : (0 : Int32).toInt = 0 := rfl
  unfold w_X2_beginRow
  exact hq (-1) false (-1) (-1) 0 (by omega) (by omega) (by omega) (by omega) (by omega)
set_option maxHeartbeats 4000000 in
theorem ok_X6_closeRow {v_fault : Int32} {v_faultPlace : Int32} {v_count : Int32} {v_at : Int32} {v_sort : Nat → Int32} {v_value : Nat → Int32} {v_low : Nat → Int32} {v_high : Nat → Int32} {v_firstPart : Nat → Int32} {v_nextPart : Nat → Int32} {a1_pending : Int32} {a1_loopable : Bool} {a1_rowFirst : Int32} {a1_rowLast : Int32} {a1_rowCount : Int32} {a1_choiceFirst : Int32} {a1_choiceLast : Int32} {a1_choiceCount : Int32} {gb : Int} {Q : Int32 → Int32 → Int32 → (Nat → Int32) → (Nat → Int32) → (Nat → Int32) → (Nat → Int32) → (Nat → Int32) → (Nat → Int32) → Int32 → Bool → Int32 → Int32 → Int32 → Int32 → Int32 → Int32 → Prop} (a0 : 0 ≤ v_count.toInt) (a1 : v_count.toInt ≤ 256) (a2 : v_count.toInt ≤ 255) (b0 : rp (fun k v => v = -1 ∨ k < v) v_nextPart 0 v_count.toInt) (u0 : zrJ gb v_count.toInt a1_pending a1_rowFirst a1_rowLast a1_choiceFirst a1_choiceLast) (hq : ∀ (ov_fault : Int32) (ov_faultPlace : Int32) (ov_count : Int32) (ov_sort : Nat → Int32) (ov_value : Nat → Int32) (ov_low : Nat → Int32) (ov_high : Nat → Int32) (ov_firstPart : Nat → Int32) (ov_nextPart : Nat → Int32) (oa1_pending : Int32) (oa1_loopable : Bool) (oa1_rowFirst : Int32) (oa1_rowLast : Int32) (oa1_rowCount : Int32) (oa1_choiceFirst : Int32) (oa1_choiceLast : Int32) (oa1_choiceCount : Int32), ov_fault.toInt = v_fault.toInt → ov_faultPlace.toInt = v_faultPlace.toInt → 0 ≤ ov_count.toInt → ov_count.toInt ≤ 256 → v_count.toInt ≤ ov_count.toInt → ov_count.toInt ≤ v_count.toInt + 1 → ((oa1_choiceFirst.toInt = a1_choiceFirst.toInt) ∨ (oa1_choiceFirst.toInt = oa1_choiceLast.toInt)) → ((oa1_choiceFirst.toInt = a1_choiceFirst.toInt ∧ 0 ≤ a1_choiceLast.toInt ∧ a1_choiceLast.toInt ≤ 255) ∨ (oa1_choiceFirst.toInt = oa1_choiceLast.toInt)) → oa1_pending.toInt + 1 = 0 → (bz oa1_loopable).toInt = 0 → oa1_rowFirst.toInt + 1 = 0 → oa1_rowLast.toInt + 1 = 0 → oa1_rowCount.toInt = 0 → rp (fun k v => v = -1 ∨ k < v) ov_nextPart 0 ov_count.toInt → rp (fun k v => v = -1 ∨ k < v) ov_nextPart 0 v_count.toInt → (zrJ gb ov_count.toInt oa1_pending oa1_rowFirst oa1_rowLast oa1_choiceFirst oa1_choiceLast) → Q ov_fault ov_faultPlace ov_count ov_sort ov_value ov_low ov_high ov_firstPart ov_nextPart oa1_pending oa1_loopable oa1_rowFirst oa1_rowLast oa1_rowCount oa1_choiceFirst oa1_choiceLast oa1_choiceCount) : w_X6_closeRow v_fault v_faultPlace v_count v_at v_sort v_value v_low v_high v_firstPart v_nextPart a1_pending a1_loopable a1_rowFirst a1_rowLast a1_rowCount a1_choiceFirst a1_choiceLast a1_choiceCount Q := by
  have q_t : (bz true).toInt = 1 := rfl
  have q_f : (bz false).toInt = 0 := rfl
  have q_0 : (0 : Int32).toInt = 0 := rfl
  have q_5 : (5 : Int32).toInt = 5 := rfl
  unfold w_X6_closeRow
  refine ok_X6_addPending (v_count := v_count) (a1_choiceFirst := a1_choiceFirst) (a1_choiceLast := a1_choiceLast) (gb := gb) (by omega) (by omega) (rp_mono b0 (by omega) (by omega)) (by exact u0) (fun r2_0 r2_1 r2_2 r2_3 r2_4 f1 f2 h3 h4 u2_0 => ?_)
  have j_32 : ∀ (s0_32 : Int32) (v_fault_32 : Int32) (v_faultPlace_32 : Int32) (v_count_32 : Int32) (v_sort_32 : Nat → Int32) (v_value_32 : Nat → Int32) (v_low_32 : Nat → Int32) (v_high_32 : Nat → Int32) (v_firstPart_32 : Nat → Int32) (v_nextPart_32 : Nat → Int32), v_fault_32.toInt = v_fault.toInt → v_faultPlace_32.toInt = v_faultPlace.toInt → 0 ≤ v_count_32.toInt → v_count_32.toInt ≤ 256 → v_count.toInt ≤ v_count_32.toInt → v_count_32.toInt ≤ v_count.toInt + 1 → ((s0_32.toInt = v_count.toInt ∧ v_count_32.toInt = v_count.toInt + 1) ∨ (s0_32.toInt = r2_2.toInt ∧ v_count_32.toInt = v_count.toInt ∧ r2_4.toInt = 1)) → rp (fun k v => v = -1 ∨ k < v) v_nextPart_32 0 v_count_32.toInt → rp (fun k v => v = -1 ∨ k < v) v_nextPart_32 0 v_count.toInt → rp (fun k v => v = -1 ∨ k < v) v_nextPart_32 (r2_1.toInt + 1) v_count.toInt → rp (fun k v => v = -1 ∨ k < v) v_nextPart_32 (r2_1.toInt + 1) v_count_32.toInt → (zrJ gb v_count_32.toInt r2_1 r2_2 r2_3 a1_choiceFirst a1_choiceLast) → (s0_32.toInt = -1 ∨ (gb ≤ s0_32.toInt ∧ a1_choiceLast.toInt < s0_32.toInt)) → (s0_32.toInt < v_count_32.toInt) → w_X6_closeRow_32 Q s0_32 v_fault_32 v_faultPlace_32 v_count_32 v_sort_32 v_value_32 v_low_32 v_high_32 v_firstPart_32 v_nextPart_32 r2_1 a1_loopable r2_2 r2_3 r2_4 a1_choiceFirst a1_choiceLast a1_choiceCount := by
    intro s0_32 v_fault_32 v_faultPlace_32 v_count_32 v_sort_32 v_value_32 v_low_32 v_high_32 v_firstPart_32 v_nextPart_32 f5 f6 f7 f8 f9 f10 f11 h12 h13 h14 h15 u32_0 u32_1 u32_2
    unfold w_X6_closeRow_32
    have j_68 : ∀ (v_nextPart_68 : Nat → Int32) (a1_choiceFirst_68 : Int32), ((a1_choiceFirst_68.toInt = a1_choiceFirst.toInt) ∨ (a1_choiceFirst_68.toInt = s0_32.toInt)) → ((a1_choiceFirst_68.toInt = a1_choiceFirst.toInt ∧ 0 ≤ a1_choiceLast.toInt ∧ a1_choiceLast.toInt ≤ 255) ∨ (a1_choiceFirst_68.toInt = s0_32.toInt)) → rp (fun k v => v = -1 ∨ k < v) v_nextPart_68 0 v_count_32.toInt → rp (fun k v => v = -1 ∨ k < v) v_nextPart_68 0 v_count.toInt → rp (fun k v => v = -1 ∨ k < v) v_nextPart_68 (r2_1.toInt + 1) v_count.toInt → rp (fun k v => v = -1 ∨ k < v) v_nextPart_68 (r2_1.toInt + 1) v_count_32.toInt → w_X6_closeRow_68 Q s0_32 v_fault_32 v_faultPlace_32 v_count_32 v_sort_32 v_value_32 v_low_32 v_high_32 v_firstPart_32 v_nextPart_68 r2_1 a1_loopable r2_2 r2_3 r2_4 a1_choiceFirst_68 a1_choiceLast a1_choiceCount := by
      intro v_nextPart_68 a1_choiceFirst_68 f16 f17 h18 h19 h20 h21
      unfold w_X6_closeRow_68
      intro x79 ex79
      refine ok_X2_beginRow  (fun r84_0 r84_1 r84_2 r84_3 r84_4 f22 f23 f24 f25 f26 => ?_)
      exact hq v_fault_32 v_faultPlace_32 v_count_32 v_sort_32 v_value_32 v_low_32 v_high_32 v_firstPart_32 v_nextPart_68 r84_0 r84_1 r84_2 r84_3 r84_4 a1_choiceFirst_68 s0_32 x79 (by omega) (by omega) (by omega) (by omega) (by omega) (by omega) (by omega) (by omega) (by omega) (by omega) (by omega) (by omega) (by omega) (rp_mono h21 (by omega) (by omega)) (rp_mono h21 (by omega) (by omega)) (by exact zrJ_c u32_0 (by omega) (by omega) (by omega) (by omega) (by omega) (by omega))
    have j_63 : ((a1_choiceLast.toInt + 1 ≤ 0) ∨ (0 ≤ a1_choiceLast.toInt ∧ 256 ≤ a1_choiceLast.toInt)) → w_X6_closeRow_63 Q s0_32 v_fault_32 v_faultPlace_32 v_count_32 v_sort_32 v_value_32 v_low_32 v_high_32 v_firstPart_32 v_nextPart_32 r2_1 a1_loopable r2_2 r2_3 r2_4 a1_choiceFirst a1_choiceLast a1_choiceCount := by
      intro f27
      unfold w_X6_closeRow_63
      exact j_68 v_nextPart_32 s0_32 (by omega) (by omega) (rp_mono h15 (by omega) (by omega)) (rp_mono h15 (by omega) (by omega)) (rp_mono h15 (by omega) (by omega)) (rp_mono h15 (by omega) (by omega))
    refine ⟨fun c37 => ?_, fun c37 => ?_⟩
    · have f28 : a1_choiceLast.toInt < 0 := i_lt (a := a1_choiceLast.toInt) (b := 0) rfl rfl c37
      exact j_63  (by omega)
    · have f29 : 0 ≤ a1_choiceLast.toInt := i_nlt (a := a1_choiceLast.toInt) (b := 0) rfl rfl c37
      refine ⟨fun c47 => ?_, fun c47 => ?_⟩
      · have f30 : 256 ≤ a1_choiceLast.toInt := i_le (a := 256) (b := a1_choiceLast.toInt) rfl rfl c47
        exact j_63  (by omega)
      · have f31 : a1_choiceLast.toInt < 256 := i_nle (a := 256) (b := a1_choiceLast.toInt) rfl rfl c47
        have f32 : ((s0_32.toInt + 1 = 0) ∨ (a1_choiceLast.toInt + 1 ≤ s0_32.toInt)) := by omega
        refine ⟨i_in (by omega) (by omega), ?_⟩
        intro g59 eg59
        have h33 : rp (fun k v => v = -1 ∨ k < v) g59 0 v_count_32.toInt := rp_upd (P := (fun k v => v = -1 ∨ k < v)) (a := a1_choiceLast.toInt) (b := s0_32.toInt) h12 eg59 rfl rfl (by omega) (by omega)
        have h34 : rp (fun k v => v = -1 ∨ k < v) g59 0 v_count.toInt := rp_upd (P := (fun k v => v = -1 ∨ k < v)) (a := a1_choiceLast.toInt) (b := s0_32.toInt) h13 eg59 rfl rfl (by omega) (by omega)
        have h35 : rp (fun k v => v = -1 ∨ k < v) g59 (r2_1.toInt + 1) v_count.toInt := rp_upd (P := (fun k v => v = -1 ∨ k < v)) (a := a1_choiceLast.toInt) (b := s0_32.toInt) h14 eg59 rfl rfl (by omega) (by omega)
        have h36 : rp (fun k v => v = -1 ∨ k < v) g59 (r2_1.toInt + 1) v_count_32.toInt := rp_upd (P := (fun k v => v = -1 ∨ k < v)) (a := a1_choiceLast.toInt) (b := s0_32.toInt) h15 eg59 rfl rfl (by omega) (by omega)
        exact j_68 g59 a1_choiceFirst (by omega) (by omega) (rp_mono h36 (by omega) (by omega)) (rp_mono h36 (by omega) (by omega)) (rp_mono h36 (by omega) (by omega)) (rp_mono h36 (by omega) (by omega))
  refine ⟨fun c10 => ?_, fun c10 => ?_⟩
  · have f37 : r2_4.toInt ≠ 1 := i_ne (a := r2_4.toInt) (b := 1) rfl rfl c10
    refine ok_X6_makeRound (by omega) (by omega) (by omega) (rp_mono h4 (by omega) (by omega)) (fun r29 r29_0 r29_1 r29_2 r29_3 r29_4 r29_5 r29_6 r29_7 r29_8 f38 f39 f40 f41 h42 h43 h44 => ?_)
    exact j_32 r29 r29_0 r29_1 r29_2 r29_3 r29_4 r29_5 r29_6 r29_7 r29_8 (by omega) (by omega) (by omega) (by omega) (by omega) (by omega) (by omega) (rp_mono h44 (by omega) (by omega)) (rp_mono h44 (by omega) (by omega)) (rp_mono h44 (by omega) (by omega)) (rp_mono h44 (by omega) (by omega)) (by first | exact u2_0 | exact zrJ_w u2_0 (by omega)) (by unfold zrJ at u2_0; omega) (by unfold zrJ at u2_0; omega)
  · have f45 : r2_4.toInt = 1 := i_eq (a := r2_4.toInt) (b := 1) rfl rfl c10
    exact j_32 r2_2 v_fault v_faultPlace v_count v_sort v_value v_low v_high v_firstPart r2_0 (by omega) (by omega) (by omega) (by omega) (by omega) (by omega) (by omega) (rp_mono h4 (by omega) (by omega)) (rp_mono h4 (by omega) (by omega)) (rp_mono h4 (by omega) (by omega)) (rp_mono h4 (by omega) (by omega)) (by first | exact u2_0 | exact zrJ_w u2_0 (by omega)) (by unfold zrJ at u2_0; omega) (by unfold zrJ at u2_0; omega)
set_option maxHeartbeats 4000000 in
theorem ok_X10h_lastOf {p1 : Int32} {v_count : Int32} {v_last : Nat → Int32} {gm : Int} {Q : Int32 → Prop} (a0 : 0 ≤ v_count.toInt) (a1 : v_count.toInt ≤ 256) (b0 : rp (fun k v => -1 ≤ v ∧ v ≤ 255) v_last 0 v_count.toInt) (u0 : zrLt v_last v_count.toInt gm) (u1 : 0 ≤ gm) (hq : ∀ (r : Int32), ((0 ≤ p1.toInt ∧ p1.toInt + 1 ≤ v_count.toInt ∧ 0 ≤ r.toInt + 1 ∧ r.toInt ≤ 255) ∨ (r.toInt + 1 = 0)) → (-1 ≤ r.toInt ∧ r.toInt < gm) → Q r) : w_X10_lastOf p1 v_count v_last Q := by
  have q_t : (bz true).toInt = 1 := rfl
  have q_f : (bz false).toInt = 0 := rfl
  have q_m1 : ((-1) : Int32).toInt = (-1) := rfl
  unfold w_X10_lastOf
  have j_22 : ∀ (s0_22 : Int32), ((0 ≤ p1.toInt ∧ p1.toInt + 1 ≤ v_count.toInt ∧ 0 ≤ s0_22.toInt + 1 ∧ s0_22.toInt ≤ 255) ∨ (s0_22.toInt + 1 = 0)) → (-1 ≤ s0_22.toInt ∧ s0_22.toInt < gm) → w_X10_lastOf_22 Q s0_22 := by
    intro s0_22 f1 u22_0
    unfold w_X10_lastOf_22
    exact hq s0_22 (by omega) (by exact u22_0)
  have j_21 : ((p1.toInt + 1 ≤ 0) ∨ (0 ≤ p1.toInt ∧ v_count.toInt ≤ p1.toInt)) → w_X10_lastOf_21 Q := by
    intro f2
    unfold w_X10_lastOf_21
    exact j_22 (-1) (by omega) (by first | exact zrLt_g u0 ex17 (by omega) (by omega) | omega)
  refine ⟨fun c1 => ?_, fun c1 => ?_⟩
  · have f3 : p1.toInt < 0 := i_lt (a := p1.toInt) (b := 0) rfl rfl c1
    exact j_21  (by omega)
  · have f4 : 0 ≤ p1.toInt := i_nlt (a := p1.toInt) (b := 0) rfl rfl c1
    refine ⟨fun c9 => ?_, fun c9 => ?_⟩
    · have f5 : v_count.toInt ≤ p1.toInt := i_le (a := v_count.toInt) (b := p1.toInt) rfl rfl c9
      exact j_21  (by omega)
    · have f6 : p1.toInt < v_count.toInt := i_nle (a := v_count.toInt) (b := p1.toInt) rfl rfl c9
      refine ⟨i_in (by omega) (by omega), ?_⟩
      intro x17 ex17
      have f7 : 0 ≤ x17.toInt + 1 ∧ x17.toInt ≤ 255 := by have h9 := rp_get (P := (fun k v => -1 ≤ v ∧ v ≤ 255)) (a := p1.toInt) b0 ex17 rfl (by omega) (by omega) (by omega); omega
      exact j_22 x17 (by omega) (by first | exact zrLt_g u0 ex17 (by omega) (by omega) | omega)
set_option maxHeartbeats 4000000 in
theorem ok_X10h_add {p1 : Int32} {p2 : Int32} {p3 : Int32} {p4 : Int32} {p5 : Int32} {v_count : Int32} {v_sort : Nat → Int32} {v_holder : Nat → Int32} {v_before : Nat → Int32} {v_last : Nat → Int32} {v_parts : Nat → Int32} {v_value : Nat → Int32} {v_low : Nat → Int32} {v_high : Nat → Int32} {Q : Int32 → Int32 → (Nat → Int32) → (Nat → Int32) → (Nat → Int32) → (Nat → Int32) → (Nat → Int32) → (Nat → Int32) → (Nat → Int32) → (Nat → Int32) → Prop} (a0 : 0 ≤ v_count.toInt) (a1 : v_count.toInt ≤ 256) (a2 : 0 ≤ p5.toInt + 1) (a3 : p5.toInt + 1 ≤ v_count.toInt) (b0 : rp (fun k v => -1 ≤ v ∧ v ≤ 255) v_last 0 v_count.toInt) (b1 : rp (fun k v => v < k ∧ -1 ≤ v) v_holder 0 v_count.toInt) (b2 : rp (fun k v => v < k ∧ -1 ≤ v) v_before 0 v_count.toInt) (u0 : zrLt v_last v_count.toInt v_count.toInt) (hq : ∀ (r : Int32) (ov_count : Int32) (ov_sort : Nat → Int32) (ov_holder : Nat → Int32) (ov_before : Nat → Int32) (ov_last : Nat → Int32) (ov_parts : Nat → Int32) (ov_value : Nat → Int32) (ov_low : Nat → Int32) (ov_high : Nat → Int32), r.toInt ≤ v_count.toInt → ((r.toInt + 1 = 0) ∨ (p5.toInt + 1 ≤ r.toInt)) → v_count.toInt ≤ ov_count.toInt → ((r.toInt + 1 = 0 ∧ ov_count.toInt = v_count.toInt ∧ 256 ≤ v_count.toInt) ∨ (r.toInt = v_count.toInt ∧ v_count.toInt ≤ 255 ∧ ov_count.toInt = v_count.toInt + 1)) → rp (fun k v => -1 ≤ v ∧ v ≤ 255) ov_last 0 v_count.toInt → rp (fun k v => -1 ≤ v ∧ v ≤ 255) ov_last 0 ov_count.toInt → rp (fun k v => -1 ≤ v ∧ v ≤ 255) ov_last (r.toInt + 1) v_count.toInt → rp (fun k v => -1 ≤ v ∧ v ≤ 255) ov_last (r.toInt + 1) ov_count.toInt → rp (fun k v => v < k ∧ -1 ≤ v) ov_holder 0 v_count.toInt → rp (fun k v => v < k ∧ -1 ≤ v) ov_holder 0 ov_count.toInt → rp (fun k v => v < k ∧ -1 ≤ v) ov_holder (r.toInt + 1) v_count.toInt → rp (fun k v => v < k ∧ -1 ≤ v) ov_holder (r.toInt + 1) ov_count.toInt → rp (fun k v => v < k ∧ -1 ≤ v) ov_before 0 v_count.toInt → rp (fun k v => v < k ∧ -1 ≤ v) ov_before 0 ov_count.toInt → rp (fun k v => v < k ∧ -1 ≤ v) ov_before (r.toInt + 1) v_count.toInt → rp (fun k v => v < k ∧ -1 ≤ v) ov_before (r.toInt + 1) ov_count.toInt → rp (fun k v => v < k ∧ -1 ≤ v) ov_holder 0 (r.toInt + 1) → rp (fun k v => v < k ∧ -1 ≤ v) ov_before 0 (r.toInt + 1) → rp (fun k v => -1 ≤ v ∧ v ≤ 255) ov_last 0 (r.toInt + 1) → (zrLt ov_last ov_count.toInt ov_count.toInt) → Q r ov_count ov_sort ov_holder ov_before ov_last ov_parts ov_value ov_low ov_high) : w_X10_add p1 p2 p3 p4 p5 v_count v_sort v_holder v_before v_last v_parts v_value v_low v_high Q := by
  have q_t : (bz true).toInt = 1 := rfl
  have q_f : (bz false).toInt = 0 := rfl
  have q_m1 : ((-1) : Int32).toInt = (-1) := rfl
  unfold w_X10_add
  refine ⟨fun c9 => ?_, fun c9 => ?_⟩
  · have f1 : v_count.toInt < 256 := i_lt (a := v_count.toInt) (b := 256) rfl rfl c9
    intro x26 ex26
    have f2 : x26.toInt = v_count.toInt + 1 := i_add (a := v_count.toInt) (b := 1) ex26 rfl rfl (by omega) (by omega)
    refine ⟨i_in (by omega) (by omega), ?_⟩
    intro g37 eg37
    refine ⟨i_in (by omega) (by omega), ?_⟩
    intro g45 eg45
    refine ⟨i_in (by omega) (by omega), ?_⟩
    intro g53 eg53
    refine ⟨i_in (by omega) (by omega), ?_⟩
    intro g62 eg62
    refine ⟨i_in (by omega) (by omega), ?_⟩
    intro g71 eg71
    have h3 : rp (fun k v => v < k ∧ -1 ≤ v) g71 0 (v_count.toInt + 1) := rp_ext (P := (fun k v => v < k ∧ -1 ≤ v)) (a := v_count.toInt) (b := p5.toInt) b1 eg71 rfl rfl (by omega) (by omega) ⟨(by omega), (by omega)⟩
    refine ⟨i_in (by omega) (by omega), ?_⟩
    intro g79 eg79
    refine ⟨i_in (by omega) (by omega), ?_⟩
    intro g87 eg87
    have h4 : rp (fun k v => -1 ≤ v ∧ v ≤ 255) g87 0 (v_count.toInt + 1) := rp_ext (P := (fun k v => -1 ≤ v ∧ v ≤ 255)) (a := v_count.toInt) (b := (-1)) b0 eg87 rfl rfl (by omega) (by omega) ⟨(by omega), (by omega)⟩
    have hq9 := zrLt_n u0 eg87 (by omega) rfl rfl (show x26.toInt = v_count.toInt + 1 by omega)
    refine ok_X10h_lastOf (gm := v_count.toInt) (by omega) (by omega) (rp_mono h4 (by omega) (by omega)) (by exact hq9) (by omega) (fun r97 f5 u97_0 => ?_)
    have f6 : (0 ≤ r97.toInt + 1 ∧ r97.toInt + 1 ≤ v_count.toInt) := by omega
    refine ⟨i_in (by omega) (by omega), ?_⟩
    intro g100 eg100
    have h7 : rp (fun k v => v < k ∧ -1 ≤ v) g100 0 (v_count.toInt + 1) := rp_ext (P := (fun k v => v < k ∧ -1 ≤ v)) (a := v_count.toInt) (b := r97.toInt) b2 eg100 rfl rfl (by omega) (by omega) ⟨(by omega), (by omega)⟩
    refine ok_X10_has (by omega) (by omega) (fun r104 f8 => ?_)
    have j_130 : ∀ (v_last_130 : Nat → Int32) (v_parts_130 : Nat → Int32), rp (fun k v => -1 ≤ v ∧ v ≤ 255) v_last_130 0 (v_count.toInt + 1) → rp (fun k v => -1 ≤ v ∧ v ≤ 255) v_last_130 0 x26.toInt → (zrLt v_last_130 x26.toInt x26.toInt) → w_X10_add_130 Q v_count x26 g37 g71 g100 v_last_130 v_parts_130 g45 g53 g62 := by
      intro v_last_130 v_parts_130 h9 h10 u130_0
      unfold w_X10_add_130
      exact hq v_count x26 g37 g71 g100 v_last_130 v_parts_130 g45 g53 g62 (by omega) (by omega) (by omega) (by omega) (rp_mono h10 (by omega) (by omega)) (rp_mono h10 (by omega) (by omega)) (rp_mono h10 (by omega) (by omega)) (rp_mono h10 (by omega) (by omega)) (rp_mono h3 (by omega) (by omega)) (rp_mono h3 (by omega) (by omega)) (rp_mono h3 (by omega) (by omega)) (rp_mono h3 (by omega) (by omega)) (rp_mono h7 (by omega) (by omega)) (rp_mono h7 (by omega) (by omega)) (rp_mono h7 (by omega) (by omega)) (rp_mono h7 (by omega) (by omega)) (rp_mono h3 (by omega) (by omega)) (rp_mono h7 (by omega) (by omega)) (rp_mono h10 (by omega) (by omega)) (by exact u130_0)
    refine ⟨fun c107 => ?_, fun c107 => ?_⟩
    · have f11 : r104.toInt = 0 := i_eq (a := r104.toInt) (b := 0) rfl rfl c107
      exact j_130 g87 g79 (rp_mono h4 (by omega) (by omega)) (rp_mono h4 (by omega) (by omega)) (by first | exact zrLt_s hq9 eg118 ⟨by omega, by omega⟩ (by omega) | exact zrLt_m hq9 (by omega))
    · have f12 : r104.toInt ≠ 0 := i_ne (a := r104.toInt) (b := 0) rfl rfl c107
      refine ⟨i_in (by omega) (by omega), ?_⟩
      intro g118 eg118
      have h13 : rp (fun k v => -1 ≤ v ∧ v ≤ 255) g118 0 (v_count.toInt + 1) := rp_upd (P := (fun k v => -1 ≤ v ∧ v ≤ 255)) (a := p5.toInt) (b := v_count.toInt) h4 eg118 rfl rfl (by omega) ⟨(by omega), (by omega)⟩
      refine ⟨i_in (by omega) (by omega), ?_⟩
      intro x126 ex126
      intro x128 ex128
      refine ⟨i_in (by omega) (by omega), ?_⟩
      intro g129 eg129
      exact j_130 g118 g129 (rp_mono h13 (by omega) (by omega)) (rp_mono h13 (by omega) (by omega)) (by first | exact zrLt_s hq9 eg118 ⟨by omega, by omega⟩ (by omega) | exact zrLt_m hq9 (by omega))
  · have f14 : 256 ≤ v_count.toInt := i_nlt (a := v_count.toInt) (b := 256) rfl rfl c9
    exact hq (-1) v_count v_sort v_holder v_before v_last v_parts v_value v_low v_high (by omega) (by omega) (by omega) (by omega) (rp_mono b0 (by omega) (by omega)) (rp_mono b0 (by omega) (by omega)) (rp_mono b0 (by omega) (by omega)) (rp_mono b0 (by omega) (by omega)) (rp_mono b1 (by omega) (by omega)) (rp_mono b1 (by omega) (by omega)) (rp_mono b1 (by omega) (by omega)) (rp_mono b1 (by omega) (by omega)) (rp_mono b2 (by omega) (by omega)) (rp_mono b2 (by omega) (by omega)) (rp_mono b2 (by omega) (by omega)) (rp_mono b2 (by omega) (by omega)) (rp_mono b1 (by omega) (by omega)) (rp_mono b2 (by omega) (by omega)) (rp_mono b0 (by omega) (by omega)) (by exact u0)
set_option maxHeartbeats 4000000 in
theorem ok_X10h_has {p1 : Int32} {v_count : Int32} {Q : Int32 → Prop} (a0 : 0 ≤ v_count.toInt) (a1 : v_count.toInt ≤ 256) (hq : ∀ (r : Int32), ((r.toInt = 1 ∧ 0 ≤ p1.toInt ∧ p1.toInt + 1 ≤ v_count.toInt) ∨ (r.toInt = 0)) → ((r.toInt = 1 ∧ 0 ≤ p1.toInt ∧ p1.toInt + 1 ≤ v_count.toInt) ∨ (r.toInt = 0 ∧ p1.toInt + 1 ≤ 0) ∨ (r.toInt = 0 ∧ v_count.toInt ≤ p1.toInt)) → Q r) : w_X10_has p1 v_count Q := by
  have q_t : (bz true).toInt = 1 := rfl
  have q_f : (bz false).toInt = 0 := rfl
  have q_0 : (0 : Int32).toInt = 0 := rfl
  have q_1 : (1 : Int32).toInt = 1 := rfl
  unfold w_X10_has
  have j_17 : ∀ (s0_17 : Int32), ((s0_17.toInt = 1 ∧ 0 ≤ p1.toInt ∧ p1.toInt + 1 ≤ v_count.toInt) ∨ (s0_17.toInt = 0 ∧ p1.toInt + 1 ≤ 0) ∨ (s0_17.toInt = 0 ∧ v_count.toInt ≤ p1.toInt)) → ((s0_17.toInt = 1 ∧ 0 ≤ p1.toInt ∧ p1.toInt + 1 ≤ v_count.toInt) ∨ (s0_17.toInt = 0)) → w_X10_has_17 Q s0_17 := by
    intro s0_17 f1 f2
    unfold w_X10_has_17
    refine ⟨i_01 (by omega) (by omega), ?_⟩
    exact hq s0_17 (by omega) (by omega)
  have j_16 : ((p1.toInt + 1 ≤ 0) ∨ (0 ≤ p1.toInt ∧ v_count.toInt ≤ p1.toInt)) → w_X10_has_16 Q := by
    intro f3
    unfold w_X10_has_16
    exact j_17 0 (by omega) (by omega)
  refine ⟨fun c1 => ?_, fun c1 => ?_⟩
  · have f4 : p1.toInt < 0 := i_lt (a := p1.toInt) (b := 0) rfl rfl c1
    exact j_16  (by omega)
  · have f5 : 0 ≤ p1.toInt := i_nlt (a := p1.toInt) (b := 0) rfl rfl c1
    refine ⟨fun c9 => ?_, fun c9 => ?_⟩
    · have f6 : v_count.toInt ≤ p1.toInt := i_le (a := v_count.toInt) (b := p1.toInt) rfl rfl c9
      exact j_16  (by omega)
    · have f7 : p1.toInt < v_count.toInt := i_nle (a := v_count.toInt) (b := p1.toInt) rfl rfl c9
      exact j_17 1 (by omega) (by omega)
set_option maxHeartbeats 4000000 in
theorem ok_X10h_close {p1 : Int32} {v_count : Int32} {v_end : Nat → Int32} {Q : (Nat → Int32) → Prop} (a0 : 0 ≤ v_count.toInt) (a1 : v_count.toInt ≤ 256) (a2 : 0 ≤ p1.toInt + 1) (a3 : p1.toInt + 1 ≤ v_count.toInt) (hq : ∀ (ov_end : Nat → Int32), ((p1.toInt < 0 ∧ ov_end = v_end) ∨ (0 ≤ p1.toInt ∧ ov_end = upd v_end p1.toNatClampNeg v_count)) → Q ov_end) : w_X10_close p1 v_count v_end Q := by
  have q_t : (bz true).toInt = 1 := rfl
  have q_f : (bz false).toInt = 0 := rfl
  unfold w_X10_close
  refine ok_X10h_has (by omega) (by omega) (fun r2 f1 f2 => ?_)
  have j_18 : ∀ (v_end_18 : Nat → Int32), ((p1.toInt < 0 ∧ v_end_18 = v_end) ∨ (0 ≤ p1.toInt ∧ v_end_18 = upd v_end p1.toNatClampNeg v_count)) → w_X10_close_18 Q v_end_18 := by
    intro v_end_18 u18_0
    unfold w_X10_close_18
    exact hq v_end_18 (by exact u18_0)
  refine ⟨fun c5 => ?_, fun c5 => ?_⟩
  · have f3 : r2.toInt = 0 := i_eq (a := r2.toInt) (b := 0) rfl rfl c5
    exact j_18 v_end (by first | exact Or.inr ⟨by omega, eg17⟩ | exact Or.inl ⟨by omega, rfl⟩)
  · have f4 : r2.toInt ≠ 0 := i_ne (a := r2.toInt) (b := 0) rfl rfl c5
    refine ⟨i_in (by omega) (by omega), ?_⟩
    intro g17 eg17
    exact j_18 g17 (by first | exact Or.inr ⟨by omega, eg17⟩ | exact Or.inl ⟨by omega, rfl⟩)
set_option maxHeartbeats 4000000 in
theorem okB_X6_lay {p1 : Int32} {p2 : Int32} {p3 : Int32} {v_fault : Int32} {v_faultPlace : Int32} {v_count : Int32} {v_depth : Int32} {v_at : Int32} {v_items : Int32} {v_partCount : Int32} {v_sort : Nat → Int32} {v_value : Nat → Int32} {v_low : Nat → Int32} {v_high : Nat → Int32} {v_firstPart : Nat → Int32} {v_nextPart : Nat → Int32} {v_tree_there : Bool} {v_tree_count : Int32} {v_tree_captures : Int32} {v_tree_ranges : Int32} {v_tree_sort : Nat → Int32} {v_tree_holder : Nat → Int32} {v_tree_end : Nat → Int32} {v_tree_before : Nat → Int32} {v_tree_last : Nat → Int32} {v_tree_parts : Nat → Int32} {v_tree_value : Nat → Int32} {v_tree_low : Nat → Int32} {v_tree_high : Nat → Int32} {W_X6_lay : Int32 → Int32 → Int32 → Int32 → Int32 → Int32 → Int32 → Int32 → Int32 → Int32 → (Nat → Int32) → (Nat → Int32) → (Nat → Int32) → (Nat → Int32) → (Nat → Int32) → (Nat → Int32) → Bool → Int32 → Int32 → Int32 → (Nat → Int32) → (Nat → Int32) → (Nat → Int32) → (Nat → Int32) → (Nat → Int32) → (Nat → Int32) → (Nat → Int32) → (Nat → Int32) → (Nat → Int32) → (Int32 → (Nat → Int32) → (Nat → Int32) → (Nat → Int32) → (Nat → Int32) → (Nat → Int32) → (Nat → Int32) → (Nat → Int32) → (Nat → Int32) → (Nat → Int32) → Prop) → Prop} {lv : Int} (hW_X6_lay : ∀ (p1 : Int32) (p2 : Int32) (p3 : Int32) (v_fault : Int32) (v_faultPlace : Int32) (v_count : Int32) (v_depth : Int32) (v_at : Int32) (v_items : Int32) (v_partCount : Int32) (v_sort : Nat → Int32) (v_value : Nat → Int32) (v_low : Nat → Int32) (v_high : Nat → Int32) (v_firstPart : Nat → Int32) (v_nextPart : Nat → Int32) (v_tree_there : Bool) (v_tree_count : Int32) (v_tree_captures : Int32) (v_tree_ranges : Int32) (v_tree_sort : Nat → Int32) (v_tree_holder : Nat → Int32) (v_tree_end : Nat → Int32) (v_tree_before : Nat → Int32) (v_tree_last : Nat → Int32) (v_tree_parts : Nat → Int32) (v_tree_value : Nat → Int32) (v_tree_low : Nat → Int32) (v_tree_high : Nat → Int32) (Q : Int32 → (Nat → Int32) → (Nat → Int32) → (Nat → Int32) → (Nat → Int32) → (Nat → Int32) → (Nat → Int32) → (Nat → Int32) → (Nat → Int32) → (Nat → Int32) → Prop), 0 ≤ v_count.toInt → v_count.toInt ≤ 256 → 0 ≤ v_partCount.toInt → v_partCount.toInt ≤ 200 → 0 ≤ v_tree_count.toInt → v_tree_count.toInt ≤ 256 → 0 ≤ v_tree_ranges.toInt → v_tree_ranges.toInt ≤ 512 → 0 ≤ p3.toInt → p3.toInt ≤ 61 → 0 ≤ p2.toInt + 1 → p2.toInt + 1 ≤ v_tree_count.toInt → (lv : Int) + 1 ≤ p3.toInt → rp (fun k v => v = -1 ∨ k < v) v_nextPart 0 v_count.toInt → rp (fun k v => -1 ≤ v ∧ v ≤ 255) v_tree_last 0 v_tree_count.toInt → rp (fun k v => v < k ∧ -1 ≤ v) v_tree_holder 0 v_tree_count.toInt → rp (fun k v => v < k ∧ -1 ≤ v) v_tree_before 0 v_tree_count.toInt → (zrLt v_tree_last v_tree_count.toInt v_tree_count.toInt) → (∀ (ov_tree_count : Int32) (ov_tree_sort : Nat → Int32) (ov_tree_holder : Nat → Int32) (ov_tree_end : Nat → Int32) (ov_tree_before : Nat → Int32) (ov_tree_last : Nat → Int32) (ov_tree_parts : Nat → Int32) (ov_tree_value : Nat → Int32) (ov_tree_low : Nat → Int32) (ov_tree_high : Nat → Int32), 0 ≤ ov_tree_count.toInt → ov_tree_count.toInt ≤ 256 → v_tree_count.toInt ≤ ov_tree_count.toInt → rp (fun k v => -1 ≤ v ∧ v ≤ 255) ov_tree_last 0 ov_tree_count.toInt → rp (fun k v => v < k ∧ -1 ≤ v) ov_tree_holder 0 ov_tree_count.toInt → rp (fun k v => v < k ∧ -1 ≤ v) ov_tree_before 0 ov_tree_count.toInt → (zrLt ov_tree_last ov_tree_count.toInt ov_tree_count.toInt) → (rp (fun k v => k < v ∧ v ≤ 256) ov_tree_end v_tree_count.toInt ov_tree_count.toInt) → (zrYs v_tree_end ov_tree_end v_tree_count.toInt) → Q ov_tree_count ov_tree_sort ov_tree_holder ov_tree_end ov_tree_before ov_tree_last ov_tree_parts ov_tree_value ov_tree_low ov_tree_high) → W_X6_lay p1 p2 p3 v_fault v_faultPlace v_count v_depth v_at v_items v_partCount v_sort v_value v_low v_high v_firstPart v_nextPart v_tree_there v_tree_count v_tree_captures v_tree_ranges v_tree_sort v_tree_holder v_tree_end v_tree_before v_tree_last v_tree_parts v_tree_value v_tree_low v_tree_high Q) {Q : Int32 → (Nat → Int32) → (Nat → Int32) → (Nat → Int32) → (Nat → Int32) → (Nat → Int32) → (Nat → Int32) → (Nat → Int32) → (Nat → Int32) → (Nat → Int32) → Prop} (a0 : 0 ≤ v_count.toInt) (a1 : v_count.toInt ≤ 256) (a2 : 0 ≤ v_partCount.toInt) (a3 : v_partCount.toInt ≤ 200) (a4 : 0 ≤ v_tree_count.toInt) (a5 : v_tree_count.toInt ≤ 256) (a6 : 0 ≤ v_tree_ranges.toInt) (a7 : v_tree_ranges.toInt ≤ 512) (a8 : 0 ≤ p3.toInt) (a9 : p3.toInt ≤ 61) (a10 : 0 ≤ p2.toInt + 1) (a11 : p2.toInt + 1 ≤ v_tree_count.toInt) (a12 : (lv : Int) ≤ p3.toInt) (b0 : rp (fun k v => v = -1 ∨ k < v) v_nextPart 0 v_count.toInt) (b1 : rp (fun k v => -1 ≤ v ∧ v ≤ 255) v_tree_last 0 v_tree_count.toInt) (b2 : rp (fun k v => v < k ∧ -1 ≤ v) v_tree_holder 0 v_tree_count.toInt) (b3 : rp (fun k v => v < k ∧ -1 ≤ v) v_tree_before 0 v_tree_count.toInt) (u0 : zrLt v_tree_last v_tree_count.toInt v_tree_count.toInt) (hq : ∀ (ov_tree_count : Int32) (ov_tree_sort : Nat → Int32) (ov_tree_holder : Nat → Int32) (ov_tree_end : Nat → Int32) (ov_tree_before : Nat → Int32) (ov_tree_last : Nat → Int32) (ov_tree_parts : Nat → Int32) (ov_tree_value : Nat → Int32) (ov_tree_low : Nat → Int32) (ov_tree_high : Nat → Int32), v_tree_count.toInt ≤ ov_tree_count.toInt → ov_tree_count.toInt ≤ 256 → rp (fun k v => -1 ≤ v ∧ v ≤ 255) ov_tree_last 0 v_tree_count.toInt → rp (fun k v => -1 ≤ v ∧ v ≤ 255) ov_tree_last 0 ov_tree_count.toInt → rp (fun k v => v < k ∧ -1 ≤ v) ov_tree_holder 0 v_tree_count.toInt → rp (fun k v => v < k ∧ -1 ≤ v) ov_tree_holder 0 ov_tree_count.toInt → rp (fun k v => v < k ∧ -1 ≤ v) ov_tree_before 0 v_tree_count.toInt → rp (fun k v => v < k ∧ -1 ≤ v) ov_tree_before 0 ov_tree_count.toInt → (zrLt ov_tree_last ov_tree_count.toInt ov_tree_count.toInt) → (rp (fun k v => k < v ∧ v ≤ 256) ov_tree_end v_tree_count.toInt ov_tree_count.toInt) → (zrYs v_tree_end ov_tree_end v_tree_count.toInt) → Q ov_tree_count ov_tree_sort ov_tree_holder ov_tree_end ov_tree_before ov_tree_last ov_tree_parts ov_tree_value ov_tree_low ov_tree_high) : wB_X6_lay W_X6_lay p1 p2 p3 v_fault v_faultPlace v_count v_depth v_at v_items v_partCount v_sort v_value v_low v_high v_firstPart v_nextPart v_tree_there v_tree_count v_tree_captures v_tree_ranges v_tree_sort v_tree_holder v_tree_end v_tree_before v_tree_last v_tree_parts v_tree_value v_tree_low v_tree_high Q := by
  have q_t : (bz true).toInt = 1 := rfl
  have q_f : (bz false).toInt = 0 := rfl
  unfold wB_X6_lay
  have j_18 : ((p1.toInt + 1 ≤ 0) ∨ (0 ≤ p1.toInt ∧ v_count.toInt ≤ p1.toInt) ∨ (0 ≤ p1.toInt ∧ p1.toInt + 1 ≤ v_count.toInt ∧ 61 ≤ p3.toInt)) → w_X6_lay_18 W_X6_lay Q v_tree_count v_tree_sort v_tree_holder v_tree_end v_tree_before v_tree_last v_tree_parts v_tree_value v_tree_low v_tree_high := by
    intro f1
    unfold w_X6_lay_18
    exact hq v_tree_count v_tree_sort v_tree_holder v_tree_end v_tree_before v_tree_last v_tree_parts v_tree_value v_tree_low v_tree_high (by omega) (by omega) (rp_mono b1 (by omega) (by omega)) (rp_mono b1 (by omega) (by omega)) (rp_mono b2 (by omega) (by omega)) (rp_mono b2 (by omega) (by omega)) (rp_mono b3 (by omega) (by omega)) (rp_mono b3 (by omega) (by omega)) (by exact u0) (by exact rp_nil (by omega)) (by exact zrYs_0)
  refine ⟨fun c1 => ?_, fun c1 => ?_⟩
  · have f2 : p1.toInt < 0 := i_lt (a := p1.toInt) (b := 0) rfl rfl c1
    exact j_18  (by omega)
  · have f3 : 0 ≤ p1.toInt := i_nlt (a := p1.toInt) (b := 0) rfl rfl c1
    refine ⟨fun c9 => ?_, fun c9 => ?_⟩
    · have f4 : v_count.toInt ≤ p1.toInt := i_le (a := v_count.toInt) (b := p1.toInt) rfl rfl c9
      exact j_18  (by omega)
    · have f5 : p1.toInt < v_count.toInt := i_nle (a := v_count.toInt) (b := p1.toInt) rfl rfl c9
      refine ⟨fun c15 => ?_, fun c15 => ?_⟩
      · have f6 : p3.toInt ≤ 60 := i_le (a := p3.toInt) (b := 60) rfl rfl c15
        refine ⟨i_in (by omega) (by omega), ?_⟩
        intro x28 ex28
        refine ⟨i_in (by omega) (by omega), ?_⟩
        intro x34 ex34
        refine ⟨i_in (by omega) (by omega), ?_⟩
        intro x40 ex40
        refine ⟨i_in (by omega) (by omega), ?_⟩
        intro x46 ex46
        refine ok_X10h_add (by omega) (by omega) (by omega) (by omega) (rp_mono b1 (by omega) (by omega)) (rp_mono b2 (by omega) (by omega)) (rp_mono b3 (by omega) (by omega)) (by exact u0) (fun r48 r48_0 r48_1 r48_2 r48_3 r48_4 r48_5 r48_6 r48_7 r48_8 f7 f8 f9 f10 h11 h12 h13 h14 h15 h16 h17 h18 h19 h20 h21 h22 h23 h24 h25 u48_0 => ?_)
        refine ⟨i_in (by omega) (by omega), ?_⟩
        intro x58 ex58
        have j_61 : ∀ n_61 : Nat, ∀ (l5_61 : Int32) (v_tree_count_61 : Int32) (v_tree_sort_61 : Nat → Int32) (v_tree_holder_61 : Nat → Int32) (v_tree_end_61 : Nat → Int32) (v_tree_before_61 : Nat → Int32) (v_tree_last_61 : Nat → Int32) (v_tree_parts_61 : Nat → Int32) (v_tree_value_61 : Nat → Int32) (v_tree_low_61 : Nat → Int32) (v_tree_high_61 : Nat → Int32), r48_0.toInt ≤ v_tree_count_61.toInt → v_tree_count_61.toInt ≤ 256 → rp (fun k v => -1 ≤ v ∧ v ≤ 255) v_tree_last_61 0 v_tree_count.toInt → rp (fun k v => -1 ≤ v ∧ v ≤ 255) v_tree_last_61 0 r48_0.toInt → rp (fun k v => -1 ≤ v ∧ v ≤ 255) v_tree_last_61 0 v_tree_count_61.toInt → rp (fun k v => -1 ≤ v ∧ v ≤ 255) v_tree_last_61 (r48.toInt + 1) v_tree_count.toInt → rp (fun k v => -1 ≤ v ∧ v ≤ 255) v_tree_last_61 (r48.toInt + 1) r48_0.toInt → rp (fun k v => -1 ≤ v ∧ v ≤ 255) v_tree_last_61 (r48.toInt + 1) v_tree_count_61.toInt → rp (fun k v => v < k ∧ -1 ≤ v) v_tree_holder_61 0 v_tree_count.toInt → rp (fun k v => v < k ∧ -1 ≤ v) v_tree_holder_61 0 r48_0.toInt → rp (fun k v => v < k ∧ -1 ≤ v) v_tree_holder_61 0 v_tree_count_61.toInt → rp (fun k v => v < k ∧ -1 ≤ v) v_tree_holder_61 (r48.toInt + 1) v_tree_count.toInt → rp (fun k v => v < k ∧ -1 ≤ v) v_tree_holder_61 (r48.toInt + 1) r48_0.toInt → rp (fun k v => v < k ∧ -1 ≤ v) v_tree_holder_61 (r48.toInt + 1) v_tree_count_61.toInt → rp (fun k v => v < k ∧ -1 ≤ v) v_tree_before_61 0 v_tree_count.toInt → rp (fun k v => v < k ∧ -1 ≤ v) v_tree_before_61 0 r48_0.toInt → rp (fun k v => v < k ∧ -1 ≤ v) v_tree_before_61 0 v_tree_count_61.toInt → rp (fun k v => v < k ∧ -1 ≤ v) v_tree_before_61 (r48.toInt + 1) v_tree_count.toInt → rp (fun k v => v < k ∧ -1 ≤ v) v_tree_before_61 (r48.toInt + 1) r48_0.toInt → rp (fun k v => v < k ∧ -1 ≤ v) v_tree_before_61 (r48.toInt + 1) v_tree_count_61.toInt → rp (fun k v => v < k ∧ -1 ≤ v) v_tree_holder_61 0 (r48.toInt + 1) → rp (fun k v => v < k ∧ -1 ≤ v) v_tree_before_61 0 (r48.toInt + 1) → rp (fun k v => -1 ≤ v ∧ v ≤ 255) v_tree_last_61 0 (r48.toInt + 1) → (zrLt v_tree_last_61 v_tree_count_61.toInt v_tree_count_61.toInt) → (rp (fun k v => k < v ∧ v ≤ 256) v_tree_end_61 (v_tree_count.toInt + 1) v_tree_count_61.toInt) → (zrYs v_tree_end v_tree_end_61 v_tree_count.toInt) → (1 ≤ n_61 ∧ (l5_61.toInt + 1 ≤ 0 ∨ (-1) * l5_61.toInt + 2147483648 ≤ (n_61 : Int))) → w_X6_lay_61 W_X6_lay p3 v_fault v_faultPlace v_count v_depth v_at v_items v_partCount v_sort v_value v_low v_high v_firstPart v_nextPart v_tree_there v_tree_captures v_tree_ranges Q r48 n_61 l5_61 v_tree_count_61 v_tree_sort_61 v_tree_holder_61 v_tree_end_61 v_tree_before_61 v_tree_last_61 v_tree_parts_61 v_tree_value_61 v_tree_low_61 v_tree_high_61 := by
          intro n_61
          induction n_61 with
          | zero =>
            intro l5_61 v_tree_count_61 v_tree_sort_61 v_tree_holder_61 v_tree_end_61 v_tree_before_61 v_tree_last_61 v_tree_parts_61 v_tree_value_61 v_tree_low_61 v_tree_high_61 f26 f27 h28 h29 h30 h31 h32 h33 h34 h35 h36 h37 h38 h39 h40 h41 h42 h43 h44 h45 h46 h47 h48 u61_0 u61_1 u61_2 hm_61
            exfalso; omega
          | succ n_61 ih_61 =>
            intro l5_61 v_tree_count_61 v_tree_sort_61 v_tree_holder_61 v_tree_end_61 v_tree_before_61 v_tree_last_61 v_tree_parts_61 v_tree_value_61 v_tree_low_61 v_tree_high_61 f26 f27 h28 h29 h30 h31 h32 h33 h34 h35 h36 h37 h38 h39 h40 h41 h42 h43 h44 h45 h46 h47 h48 u61_0 u61_1 u61_2 hm_61
            unfold w_X6_lay_61
            unfold w_X6_lay_61B
            have j_98 : w_X6_lay_98 W_X6_lay Q r48 v_tree_count_61 v_tree_sort_61 v_tree_holder_61 v_tree_end_61 v_tree_before_61 v_tree_last_61 v_tree_parts_61 v_tree_value_61 v_tree_low_61 v_tree_high_61 := by
              unfold w_X6_lay_98
              refine ok_X10h_close (by omega) (by omega) (by omega) (by omega) (fun r104_0 u104_0 => ?_)
              exact hq v_tree_count_61 v_tree_sort_61 v_tree_holder_61 r104_0 v_tree_before_61 v_tree_last_61 v_tree_parts_61 v_tree_value_61 v_tree_low_61 v_tree_high_61 (by omega) (by omega) (rp_mono h30 (by omega) (by omega)) (rp_mono h30 (by omega) (by omega)) (rp_mono h36 (by omega) (by omega)) (rp_mono h36 (by omega) (by omega)) (rp_mono h42 (by omega) (by omega)) (rp_mono h42 (by omega) (by omega)) (by exact u61_0) (by exact zrYg_c u61_1 u104_0 (by omega) rfl (by omega)) (by exact zrYs_c u61_2 u104_0 (by omega))
            refine ⟨fun c63 => ?_, fun c63 => ?_⟩
            · have f49 : l5_61.toInt < 0 := i_lt (a := l5_61.toInt) (b := 0) rfl rfl c63
              exact j_98  
            · have f50 : 0 ≤ l5_61.toInt := i_nlt (a := l5_61.toInt) (b := 0) rfl rfl c63
              refine ⟨fun c72 => ?_, fun c72 => ?_⟩
              · have f51 : v_count.toInt ≤ l5_61.toInt := i_le (a := v_count.toInt) (b := l5_61.toInt) rfl rfl c72
                exact j_98  
              · have f52 : l5_61.toInt < v_count.toInt := i_nle (a := v_count.toInt) (b := l5_61.toInt) rfl rfl c72
                intro x82 ex82
                have f53 : x82.toInt = p3.toInt + 1 := i_add (a := p3.toInt) (b := 1) ex82 rfl rfl (by omega) (by omega)
                refine hW_X6_lay l5_61 r48 x82 v_fault v_faultPlace v_count v_depth v_at v_items v_partCount v_sort v_value v_low v_high v_firstPart v_nextPart v_tree_there v_tree_count_61 v_tree_captures v_tree_ranges v_tree_sort_61 v_tree_holder_61 v_tree_end_61 v_tree_before_61 v_tree_last_61 v_tree_parts_61 v_tree_value_61 v_tree_low_61 v_tree_high_61 _ (by omega) (by omega) (by omega) (by omega) (by omega) (by omega) (by omega) (by omega) (by omega) (by omega) (by omega) (by omega) (by omega) (rp_mono b0 (by omega) (by omega)) (rp_mono h30 (by omega) (by omega)) (rp_mono h36 (by omega) (by omega)) (rp_mono h42 (by omega) (by omega)) (by exact u61_0) (fun r83_0 r83_1 r83_2 r83_3 r83_4 r83_5 r83_6 r83_7 r83_8 r83_9 f54 f55 f56 h57 h58 h59 u83_0 u83_1 u83_2 => ?_)
                refine ⟨i_in (by omega) (by omega), ?_⟩
                intro x92 ex92
                have f60 : ((x92.toInt + 1 = 0) ∨ (l5_61.toInt + 1 ≤ x92.toInt)) := by have h9 := rp_get (P := (fun k v => v = -1 ∨ k < v)) (a := l5_61.toInt) b0 ex92 rfl (by omega) (by omega) (by omega); omega
                exact ih_61 x92 r83_0 r83_1 r83_2 r83_3 r83_4 r83_5 r83_6 r83_7 r83_8 r83_9  (by omega) (by omega) (rp_mono h57 (by omega) (by omega)) (rp_mono h57 (by omega) (by omega)) (rp_mono h57 (by omega) (by omega)) (rp_mono h57 (by omega) (by omega)) (rp_mono h57 (by omega) (by omega)) (rp_mono h57 (by omega) (by omega)) (rp_mono h58 (by omega) (by omega)) (rp_mono h58 (by omega) (by omega)) (rp_mono h58 (by omega) (by omega)) (rp_mono h58 (by omega) (by omega)) (rp_mono h58 (by omega) (by omega)) (rp_mono h58 (by omega) (by omega)) (rp_mono h59 (by omega) (by omega)) (rp_mono h59 (by omega) (by omega)) (rp_mono h59 (by omega) (by omega)) (rp_mono h59 (by omega) (by omega)) (rp_mono h59 (by omega) (by omega)) (rp_mono h59 (by omega) (by omega)) (rp_mono h58 (by omega) (by omega)) (rp_mono h59 (by omega) (by omega)) (rp_mono h57 (by omega) (by omega)) (by first | exact u48_0 | exact u83_0) (by first | exact rp_nil (by omega) | exact zrYg_j u61_1 u83_1 u83_2) (by first | exact zrYs_0 | exact zrYs_t u61_2 u83_2 (by omega)) (by have h8_0 := i_rng l5_61; have h8_1 := i_rng x92; omega)
        exact ⟨((-1) * x58.toInt + 2147483648).toNat + 1, j_61   (((-1) * x58.toInt + 2147483648).toNat + 1) x58 r48_0 r48_1 r48_2 v_tree_end r48_3 r48_4 r48_5 r48_6 r48_7 r48_8  (by omega) (by omega) (rp_mono h12 (by omega) (by omega)) (rp_mono h12 (by omega) (by omega)) (rp_mono h12 (by omega) (by omega)) (rp_mono h14 (by omega) (by omega)) (rp_mono h14 (by omega) (by omega)) (rp_mono h14 (by omega) (by omega)) (rp_mono h16 (by omega) (by omega)) (rp_mono h16 (by omega) (by omega)) (rp_mono h16 (by omega) (by omega)) (rp_mono h18 (by omega) (by omega)) (rp_mono h18 (by omega) (by omega)) (rp_mono h18 (by omega) (by omega)) (rp_mono h20 (by omega) (by omega)) (rp_mono h20 (by omega) (by omega)) (rp_mono h20 (by omega) (by omega)) (rp_mono h22 (by omega) (by omega)) (rp_mono h22 (by omega) (by omega)) (rp_mono h22 (by omega) (by omega)) (rp_mono h23 (by omega) (by omega)) (rp_mono h24 (by omega) (by omega)) (rp_mono h25 (by omega) (by omega)) (by first | exact u48_0 | exact u83_0) (by first | exact rp_nil (by omega) | exact zrYg_j u61_1 u83_1 u83_2) (by first | exact zrYs_0 | exact zrYs_t u61_2 u83_2 (by omega)) (by omega)⟩
      · have f61 : 60 < p3.toInt := i_nle (a := p3.toInt) (b := 60) rfl rfl c15
        exact j_18  (by omega)
set_option maxHeartbeats 4000000 in
theorem okN_X6_lay (n9 : Nat) : ∀ (p1 : Int32) (p2 : Int32) (p3 : Int32) (v_fault : Int32) (v_faultPlace : Int32) (v_count : Int32) (v_depth : Int32) (v_at : Int32) (v_items : Int32) (v_partCount : Int32) (v_sort : Nat → Int32) (v_value : Nat → Int32) (v_low : Nat → Int32) (v_high : Nat → Int32) (v_firstPart : Nat → Int32) (v_nextPart : Nat → Int32) (v_tree_there : Bool) (v_tree_count : Int32) (v_tree_captures : Int32) (v_tree_ranges : Int32) (v_tree_sort : Nat → Int32) (v_tree_holder : Nat → Int32) (v_tree_end : Nat → Int32) (v_tree_before : Nat → Int32) (v_tree_last : Nat → Int32) (v_tree_parts : Nat → Int32) (v_tree_value : Nat → Int32) (v_tree_low : Nat → Int32) (v_tree_high : Nat → Int32) (Q : Int32 → (Nat → Int32) → (Nat → Int32) → (Nat → Int32) → (Nat → Int32) → (Nat → Int32) → (Nat → Int32) → (Nat → Int32) → (Nat → Int32) → (Nat → Int32) → Prop), 61 - p3.toInt < (n9 : Int) → 0 ≤ v_count.toInt → v_count.toInt ≤ 256 → 0 ≤ v_partCount.toInt → v_partCount.toInt ≤ 200 → 0 ≤ v_tree_count.toInt → v_tree_count.toInt ≤ 256 → 0 ≤ v_tree_ranges.toInt → v_tree_ranges.toInt ≤ 512 → 0 ≤ p3.toInt → p3.toInt ≤ 61 → 0 ≤ p2.toInt + 1 → p2.toInt + 1 ≤ v_tree_count.toInt → rp (fun k v => v = -1 ∨ k < v) v_nextPart 0 v_count.toInt → rp (fun k v => -1 ≤ v ∧ v ≤ 255) v_tree_last 0 v_tree_count.toInt → rp (fun k v => v < k ∧ -1 ≤ v) v_tree_holder 0 v_tree_count.toInt → rp (fun k v => v < k ∧ -1 ≤ v) v_tree_before 0 v_tree_count.toInt → (zrLt v_tree_last v_tree_count.toInt v_tree_count.toInt) → (∀ (ov_tree_count : Int32) (ov_tree_sort : Nat → Int32) (ov_tree_holder : Nat → Int32) (ov_tree_end : Nat → Int32) (ov_tree_before : Nat → Int32) (ov_tree_last : Nat → Int32) (ov_tree_parts : Nat → Int32) (ov_tree_value : Nat → Int32) (ov_tree_low : Nat → Int32) (ov_tree_high : Nat → Int32), 0 ≤ ov_tree_count.toInt → ov_tree_count.toInt ≤ 256 → v_tree_count.toInt ≤ ov_tree_count.toInt → rp (fun k v => -1 ≤ v ∧ v ≤ 255) ov_tree_last 0 ov_tree_count.toInt → rp (fun k v => v < k ∧ -1 ≤ v) ov_tree_holder 0 ov_tree_count.toInt → rp (fun k v => v < k ∧ -1 ≤ v) ov_tree_before 0 ov_tree_count.toInt → (zrLt ov_tree_last ov_tree_count.toInt ov_tree_count.toInt) → (rp (fun k v => k < v ∧ v ≤ 256) ov_tree_end v_tree_count.toInt ov_tree_count.toInt) → (zrYs v_tree_end ov_tree_end v_tree_count.toInt) → Q ov_tree_count ov_tree_sort ov_tree_holder ov_tree_end ov_tree_before ov_tree_last ov_tree_parts ov_tree_value ov_tree_low ov_tree_high) → w_X6_lay n9 p1 p2 p3 v_fault v_faultPlace v_count v_depth v_at v_items v_partCount v_sort v_value v_low v_high v_firstPart v_nextPart v_tree_there v_tree_count v_tree_captures v_tree_ranges v_tree_sort v_tree_holder v_tree_end v_tree_before v_tree_last v_tree_parts v_tree_value v_tree_low v_tree_high Q := by
  induction n9 with
  | zero => intro p1 p2 p3 v_fault v_faultPlace v_count v_depth v_at v_items v_partCount v_sort v_value v_low v_high v_firstPart v_nextPart v_tree_there v_tree_count v_tree_captures v_tree_ranges v_tree_sort v_tree_holder v_tree_end v_tree_before v_tree_last v_tree_parts v_tree_value v_tree_low v_tree_high Q hn a0 a1 a2 a3 a4 a5 a6 a7 a8 a9 a10 a11 b0 b1 b2 b3 u0 hq; exfalso; omega
  | succ n9 ih =>
    intro p1 p2 p3 v_fault v_faultPlace v_count v_depth v_at v_items v_partCount v_sort v_value v_low v_high v_firstPart v_nextPart v_tree_there v_tree_count v_tree_captures v_tree_ranges v_tree_sort v_tree_holder v_tree_end v_tree_before v_tree_last v_tree_parts v_tree_value v_tree_low v_tree_high Q hn a0 a1 a2 a3 a4 a5 a6 a7 a8 a9 a10 a11 b0 b1 b2 b3 u0 hq
    unfold w_X6_lay
    exact okB_X6_lay (lv := p3.toInt) (fun p1 p2 p3 v_fault v_faultPlace v_count v_depth v_at v_items v_partCount v_sort v_value v_low v_high v_firstPart v_nextPart v_tree_there v_tree_count v_tree_captures v_tree_ranges v_tree_sort v_tree_holder v_tree_end v_tree_before v_tree_last v_tree_parts v_tree_value v_tree_low v_tree_high Q a0 a1 a2 a3 a4 a5 a6 a7 a8 a9 a10 a11 a12 b0 b1 b2 b3 u0 hq => ih p1 p2 p3 v_fault v_faultPlace v_count v_depth v_at v_items v_partCount v_sort v_value v_low v_high v_firstPart v_nextPart v_tree_there v_tree_count v_tree_captures v_tree_ranges v_tree_sort v_tree_holder v_tree_end v_tree_before v_tree_last v_tree_parts v_tree_value v_tree_low v_tree_high Q (by omega) a0 a1 a2 a3 a4 a5 a6 a7 a8 a9 a10 a11 b0 b1 b2 b3 u0 hq) (by omega) (by omega) (by omega) (by omega) (by omega) (by omega) (by omega) (by omega) (by omega) (by omega) (by omega) (by omega) (by omega) b0 b1 b2 b3 u0 (fun ov_tree_count ov_tree_sort ov_tree_holder ov_tree_end ov_tree_before ov_tree_last ov_tree_parts ov_tree_value ov_tree_low ov_tree_high f0 f1 h0 h1 h2 h3 h4 h5 w0 w1 w2 => hq ov_tree_count ov_tree_sort ov_tree_holder ov_tree_end ov_tree_before ov_tree_last ov_tree_parts ov_tree_value ov_tree_low ov_tree_high (by omega) (by omega) (by omega) h1 h3 h5 w0 w1 w2)
theorem ok_X6_lay {p1 : Int32} {p2 : Int32} {p3 : Int32} {v_fault : Int32} {v_faultPlace : Int32} {v_count : Int32} {v_depth : Int32} {v_at : Int32} {v_items : Int32} {v_partCount : Int32} {v_sort : Nat → Int32} {v_value : Nat → Int32} {v_low : Nat → Int32} {v_high : Nat → Int32} {v_firstPart : Nat → Int32} {v_nextPart : Nat → Int32} {v_tree_there : Bool} {v_tree_count : Int32} {v_tree_captures : Int32} {v_tree_ranges : Int32} {v_tree_sort : Nat → Int32} {v_tree_holder : Nat → Int32} {v_tree_end : Nat → Int32} {v_tree_before : Nat → Int32} {v_tree_last : Nat → Int32} {v_tree_parts : Nat → Int32} {v_tree_value : Nat → Int32} {v_tree_low : Nat → Int32} {v_tree_high : Nat → Int32} {Q : Int32 → (Nat → Int32) → (Nat → Int32) → (Nat → Int32) → (Nat → Int32) → (Nat → Int32) → (Nat → Int32) → (Nat → Int32) → (Nat → Int32) → (Nat → Int32) → Prop} (a0 : 0 ≤ v_count.toInt) (a1 : v_count.toInt ≤ 256) (a2 : 0 ≤ v_partCount.toInt) (a3 : v_partCount.toInt ≤ 200) (a4 : 0 ≤ v_tree_count.toInt) (a5 : v_tree_count.toInt ≤ 256) (a6 : 0 ≤ v_tree_ranges.toInt) (a7 : v_tree_ranges.toInt ≤ 512) (a8 : 0 ≤ p3.toInt) (a9 : p3.toInt ≤ 61) (a10 : 0 ≤ p2.toInt + 1) (a11 : p2.toInt + 1 ≤ v_tree_count.toInt) (b0 : rp (fun k v => v = -1 ∨ k < v) v_nextPart 0 v_count.toInt) (b1 : rp (fun k v => -1 ≤ v ∧ v ≤ 255) v_tree_last 0 v_tree_count.toInt) (b2 : rp (fun k v => v < k ∧ -1 ≤ v) v_tree_holder 0 v_tree_count.toInt) (b3 : rp (fun k v => v < k ∧ -1 ≤ v) v_tree_before 0 v_tree_count.toInt) (u0 : zrLt v_tree_last v_tree_count.toInt v_tree_count.toInt) (hq : ∀ (ov_tree_count : Int32) (ov_tree_sort : Nat → Int32) (ov_tree_holder : Nat → Int32) (ov_tree_end : Nat → Int32) (ov_tree_before : Nat → Int32) (ov_tree_last : Nat → Int32) (ov_tree_parts : Nat → Int32) (ov_tree_value : Nat → Int32) (ov_tree_low : Nat → Int32) (ov_tree_high : Nat → Int32), 0 ≤ ov_tree_count.toInt → ov_tree_count.toInt ≤ 256 → v_tree_count.toInt ≤ ov_tree_count.toInt → rp (fun k v => -1 ≤ v ∧ v ≤ 255) ov_tree_last 0 ov_tree_count.toInt → rp (fun k v => v < k ∧ -1 ≤ v) ov_tree_holder 0 ov_tree_count.toInt → rp (fun k v => v < k ∧ -1 ≤ v) ov_tree_before 0 ov_tree_count.toInt → (zrLt ov_tree_last ov_tree_count.toInt ov_tree_count.toInt) → (rp (fun k v => k < v ∧ v ≤ 256) ov_tree_end v_tree_count.toInt ov_tree_count.toInt) → (zrYs v_tree_end ov_tree_end v_tree_count.toInt) → Q ov_tree_count ov_tree_sort ov_tree_holder ov_tree_end ov_tree_before ov_tree_last ov_tree_parts ov_tree_value ov_tree_low ov_tree_high) : w_X6_lay 64 p1 p2 p3 v_fault v_faultPlace v_count v_depth v_at v_items v_partCount v_sort v_value v_low v_high v_firstPart v_nextPart v_tree_there v_tree_count v_tree_captures v_tree_ranges v_tree_sort v_tree_holder v_tree_end v_tree_before v_tree_last v_tree_parts v_tree_value v_tree_low v_tree_high Q :=
  okN_X6_lay 64 p1 p2 p3 v_fault v_faultPlace v_count v_depth v_at v_items v_partCount v_sort v_value v_low v_high v_firstPart v_nextPart v_tree_there v_tree_count v_tree_captures v_tree_ranges v_tree_sort v_tree_holder v_tree_end v_tree_before v_tree_last v_tree_parts v_tree_value v_tree_low v_tree_high Q (by omega) a0 a1 a2 a3 a4 a5 a6 a7 a8 a9 a10 a11 b0 b1 b2 b3 u0 hq
set_option maxHeartbeats 4000000 in
theorem ok_X6_addOne {p1 : Int32} {v_count : Int32} {v_depth : Int32} {v_nextPart : Nat → Int32} {v_groups : Nat → Option Nat} {v_groups_c_pending : Int32} {v_groups_c_rowFirst : Int32} {v_groups_c_rowLast : Int32} {v_groups_c_rowCount : Int32} {v_groups_c_choiceFirst : Int32} {v_groups_c_choiceLast : Int32} {h3 : Nat} {gb : Int} {Q : (Nat → Int32) → Int32 → Bool → Int32 → Int32 → Int32 → Prop} (a0 : 0 ≤ v_count.toInt) (a1 : v_count.toInt ≤ 256) (a2 : 0 ≤ v_depth.toInt) (a3 : v_depth.toInt ≤ 9) (b0 : rp (fun k v => v = -1 ∨ k < v) v_nextPart 0 v_count.toInt) (u0 : zrJ gb v_count.toInt v_groups_c_pending v_groups_c_rowFirst v_groups_c_rowLast v_groups_c_choiceFirst v_groups_c_choiceLast) (u1 : zrK gb v_count.toInt v_groups_c_pending v_groups_c_rowLast v_groups_c_choiceLast p1) (v0 : ∀ i9 : Int32, i9.toInt = v_depth.toInt + (0) → 0 ≤ i9.toInt → i9.toInt ≤ 9 → v_groups i9.toNatClampNeg = some h3) (hq : ∀ (ov_nextPart : Nat → Int32) (ov_groups_c_pending : Int32) (ov_groups_c_loopable : Bool) (ov_groups_c_rowFirst : Int32) (ov_groups_c_rowLast : Int32) (ov_groups_c_rowCount : Int32), ov_groups_c_pending.toInt = p1.toInt → (bz ov_groups_c_loopable).toInt = 1 → ((ov_groups_c_rowFirst.toInt = v_groups_c_rowFirst.toInt) ∨ (ov_groups_c_rowFirst.toInt = v_groups_c_pending.toInt)) → rp (fun k v => v = -1 ∨ k < v) ov_nextPart 0 v_count.toInt → (zrJ gb v_count.toInt ov_groups_c_pending ov_groups_c_rowFirst ov_groups_c_rowLast v_groups_c_choiceFirst v_groups_c_choiceLast) → Q ov_nextPart ov_groups_c_pending ov_groups_c_loopable ov_groups_c_rowFirst ov_groups_c_rowLast ov_groups_c_rowCount) : w_X6_addOne p1 v_depth v_nextPart v_groups v_groups_c_pending v_groups_c_rowFirst v_groups_c_rowLast v_groups_c_rowCount h3 Q := by
  have q_t : (bz true).toInt = 1 := rfl
  have q_f : (bz false).toInt = 0 := rfl
  unfold w_X6_addOne
  refine ok_X6_openGroup (by omega) (by omega) (fun i9 e9 g9 l9 => v0 i9 (by omega) g9 l9) (fun r1 f1 => ?_)
  refine ⟨i_ne0 (by omega), ?_⟩
  refine ok_X6_addPending (v_count := v_count) (a1_choiceFirst := v_groups_c_choiceFirst) (a1_choiceLast := v_groups_c_choiceLast) (gb := gb) (by omega) (by omega) (rp_mono b0 (by omega) (by omega)) (by exact u0) (fun r7_0 r7_1 r7_2 r7_3 r7_4 f2 f3 h4 h5 u7_0 => ?_)
  exact hq r7_0 p1 true r7_2 r7_3 r7_4 (by omega) (by omega) (by omega) (rp_mono h5 (by omega) (by omega)) (by exact zrJ_a u7_0 u1 (by omega))
set_option maxHeartbeats 4000000 in
theorem ok_X6_addLeaf {p1 : Int32} {p2 : Int32} {v_fault : Int32} {v_faultPlace : Int32} {v_count : Int32} {v_depth : Int32} {v_at : Int32} {v_sort : Nat → Int32} {v_value : Nat → Int32} {v_low : Nat → Int32} {v_high : Nat → Int32} {v_firstPart : Nat → Int32} {v_nextPart : Nat → Int32} {v_groups : Nat → Option Nat} {v_groups_c_pending : Int32} {v_groups_c_rowFirst : Int32} {v_groups_c_rowLast : Int32} {v_groups_c_rowCount : Int32} {v_groups_c_choiceFirst : Int32} {v_groups_c_choiceLast : Int32} {h8 : Nat} {gb : Int} {Q : Int32 → Int32 → Int32 → Int32 → (Nat → Int32) → (Nat → Int32) → (Nat → Int32) → (Nat → Int32) → (Nat → Int32) → (Nat → Int32) → Int32 → Bool → Int32 → Int32 → Int32 → Prop} (a0 : 0 ≤ v_count.toInt) (a1 : v_count.toInt ≤ 256) (a2 : 0 ≤ v_depth.toInt) (a3 : v_depth.toInt ≤ 9) (a4 : 0 ≤ v_at.toInt) (a5 : v_at.toInt ≤ 6000) (a6 : v_count.toInt ≤ 255) (b0 : rp (fun k v => v = -1 ∨ k < v) v_nextPart 0 v_count.toInt) (u0 : zrJ gb v_count.toInt v_groups_c_pending v_groups_c_rowFirst v_groups_c_rowLast v_groups_c_choiceFirst v_groups_c_choiceLast) (v0 : ∀ i9 : Int32, i9.toInt = v_depth.toInt + (0) → 0 ≤ i9.toInt → i9.toInt ≤ 9 → v_groups i9.toNatClampNeg = some h8) (hq : ∀ (ov_fault : Int32) (ov_faultPlace : Int32) (ov_count : Int32) (ov_at : Int32) (ov_sort : Nat → Int32) (ov_value : Nat → Int32) (ov_low : Nat → Int32) (ov_high : Nat → Int32) (ov_firstPart : Nat → Int32) (ov_nextPart : Nat → Int32) (ov_groups_c_pending : Int32) (ov_groups_c_loopable : Bool) (ov_groups_c_rowFirst : Int32) (ov_groups_c_rowLast : Int32) (ov_groups_c_rowCount : Int32), ov_fault.toInt = v_fault.toInt → ov_faultPlace.toInt = v_faultPlace.toInt → ov_count.toInt = v_count.toInt + 1 → ov_groups_c_pending.toInt = v_count.toInt → (bz ov_groups_c_loopable).toInt = 1 → ((ov_groups_c_rowFirst.toInt = v_groups_c_rowFirst.toInt) ∨ (ov_groups_c_rowFirst.toInt = v_groups_c_pending.toInt)) → ov_at.toInt = v_at.toInt + 1 → rp (fun k v => v = -1 ∨ k < v) ov_nextPart 0 ov_count.toInt → (zrJ gb ov_count.toInt ov_groups_c_pending ov_groups_c_rowFirst ov_groups_c_rowLast v_groups_c_choiceFirst v_groups_c_choiceLast) → Q ov_fault ov_faultPlace ov_count ov_at ov_sort ov_value ov_low ov_high ov_firstPart ov_nextPart ov_groups_c_pending ov_groups_c_loopable ov_groups_c_rowFirst ov_groups_c_rowLast ov_groups_c_rowCount) : w_X6_addLeaf p1 p2 v_fault v_faultPlace v_count v_depth v_at v_sort v_value v_low v_high v_firstPart v_nextPart v_groups v_groups_c_pending v_groups_c_rowFirst v_groups_c_rowLast v_groups_c_rowCount h8 Q := by
  have q_t : (bz true).toInt = 1 := rfl
  have q_f : (bz false).toInt = 0 := rfl
  have q_0 : (0 : Int32).toInt = 0 := rfl
  unfold w_X6_addLeaf
  refine ok_X6_make (by omega) (by omega) (by omega) (rp_mono b0 (by omega) (by omega)) (fun r6 r6_0 r6_1 r6_2 r6_3 r6_4 r6_5 r6_6 r6_7 r6_8 f1 f2 f3 f4 h5 h6 h7 => ?_)
  refine ok_X6_addOne (v_count := r6_2) (v_groups_c_choiceFirst := v_groups_c_choiceFirst) (v_groups_c_choiceLast := v_groups_c_choiceLast) (gb := gb) (by omega) (by omega) (by omega) (by omega) (rp_mono h7 (by omega) (by omega)) (by exact zrJ_w u0 (by omega)) (by exact zrK_n u0 (by omega) (by omega)) (fun i9 e9 g9 l9 => v0 i9 (by omega) g9 l9) (fun r9_0 r9_1 r9_2 r9_3 r9_4 r9_5 f8 f9 f10 h11 u9_0 => ?_)
  intro x18 ex18
  have f12 : x18.toInt = v_at.toInt + 1 := i_add (a := v_at.toInt) (b := 1) ex18 rfl rfl (by omega) (by omega)
  exact hq r6_0 r6_1 r6_2 x18 r6_3 r6_4 r6_5 r6_6 r6_7 r9_0 r9_1 r9_2 r9_3 r9_4 r9_5 (by omega) (by omega) (by omega) (by omega) (by omega) (by omega) (by omega) (rp_mono h11 (by omega) (by omega)) (by assumption)
set_option maxHeartbeats 4000000 in
theorem ok_X6_readLeaf {p1 : Int32} {p2 : Int32} {v_fault : Int32} {v_faultPlace : Int32} {v_count : Int32} {v_depth : Int32} {v_at : Int32} {v_items : Int32} {v_sort : Nat → Int32} {v_value : Nat → Int32} {v_low : Nat → Int32} {v_high : Nat → Int32} {v_firstPart : Nat → Int32} {v_nextPart : Nat → Int32} {v_groups : Nat → Option Nat} {v_groups_c_pending : Int32} {v_groups_c_loopable : Bool} {v_groups_c_rowFirst : Int32} {v_groups_c_rowLast : Int32} {v_groups_c_rowCount : Int32} {v_groups_c_choiceFirst : Int32} {v_groups_c_choiceLast : Int32} {h8 : Nat} {gb : Int} {Q : Int32 → Int32 → Int32 → Int32 → Int32 → (Nat → Int32) → (Nat → Int32) → (Nat → Int32) → (Nat → Int32) → (Nat → Int32) → (Nat → Int32) → Int32 → Bool → Int32 → Int32 → Int32 → Prop} (a0 : 0 ≤ v_count.toInt) (a1 : v_count.toInt ≤ 256) (a2 : 0 ≤ v_depth.toInt) (a3 : v_depth.toInt ≤ 9) (a4 : 0 ≤ v_at.toInt) (a5 : v_at.toInt ≤ 5000) (a6 : v_count.toInt ≤ 255) (b0 : rp (fun k v => v = -1 ∨ k < v) v_nextPart 0 v_count.toInt) (u0 : zrJ gb v_count.toInt v_groups_c_pending v_groups_c_rowFirst v_groups_c_rowLast v_groups_c_choiceFirst v_groups_c_choiceLast) (v0 : ∀ i9 : Int32, i9.toInt = v_depth.toInt + (0) → 0 ≤ i9.toInt → i9.toInt ≤ 9 → v_groups i9.toNatClampNeg = some h8) (hq : ∀ (ov_fault : Int32) (ov_faultPlace : Int32) (ov_count : Int32) (ov_at : Int32) (ov_items : Int32) (ov_sort : Nat → Int32) (ov_value : Nat → Int32) (ov_low : Nat → Int32) (ov_high : Nat → Int32) (ov_firstPart : Nat → Int32) (ov_nextPart : Nat → Int32) (ov_groups_c_pending : Int32) (ov_groups_c_loopable : Bool) (ov_groups_c_rowFirst : Int32) (ov_groups_c_rowLast : Int32) (ov_groups_c_rowCount : Int32), v_fault.toInt ≤ ov_fault.toInt → ((v_fault.toInt = 0) ∨ (ov_fault.toInt = v_fault.toInt)) → ((ov_fault.toInt = v_fault.toInt ∧ ov_faultPlace.toInt = v_faultPlace.toInt ∧ ov_items.toInt ≤ 100) ∨ (101 ≤ ov_items.toInt)) → 0 ≤ ov_count.toInt → ov_count.toInt ≤ 256 → v_count.toInt ≤ ov_count.toInt → v_at.toInt ≤ ov_at.toInt → ((ov_fault.toInt ≠ 0) ∨ (ov_count.toInt + v_at.toInt ≤ ov_at.toInt + v_count.toInt)) → ov_count.toInt ≤ v_count.toInt + 1 → ov_at.toInt ≤ v_at.toInt + 1 → ov_count.toInt + v_at.toInt ≤ ov_at.toInt + v_count.toInt → rp (fun k v => v = -1 ∨ k < v) ov_nextPart 0 v_count.toInt → rp (fun k v => v = -1 ∨ k < v) ov_nextPart 0 ov_count.toInt → (zrJ gb ov_count.toInt ov_groups_c_pending ov_groups_c_rowFirst ov_groups_c_rowLast v_groups_c_choiceFirst v_groups_c_choiceLast) → Q ov_fault ov_faultPlace ov_count ov_at ov_items ov_sort ov_value ov_low ov_high ov_firstPart ov_nextPart ov_groups_c_pending ov_groups_c_loopable ov_groups_c_rowFirst ov_groups_c_rowLast ov_groups_c_rowCount) : w_X6_readLeaf p1 p2 v_fault v_faultPlace v_count v_depth v_at v_items v_sort v_value v_low v_high v_firstPart v_nextPart v_groups v_groups_c_pending v_groups_c_loopable v_groups_c_rowFirst v_groups_c_rowLast v_groups_c_rowCount h8 Q := by
  have q_t : (bz true).toInt = 1 := rfl
  have q_f : (bz false).toInt = 0 := rfl
  unfold w_X6_readLeaf
  refine ok_X6_countItem  (fun r1 r1_0 r1_1 r1_2 f1 f2 f3 f4 f5 => ?_)
  have j_13 : ∀ (v_fault_13 : Int32) (v_faultPlace_13 : Int32) (v_count_13 : Int32) (v_at_13 : Int32) (v_sort_13 : Nat → Int32) (v_value_13 : Nat → Int32) (v_low_13 : Nat → Int32) (v_high_13 : Nat → Int32) (v_firstPart_13 : Nat → Int32) (v_nextPart_13 : Nat → Int32) (v_groups_c_pending_13 : Int32) (v_groups_c_loopable_13 : Bool) (v_groups_c_rowFirst_13 : Int32) (v_groups_c_rowLast_13 : Int32) (v_groups_c_rowCount_13 : Int32), v_fault_13.toInt = r1_0.toInt → v_faultPlace_13.toInt = r1_1.toInt → 0 ≤ v_count_13.toInt → v_count_13.toInt ≤ 256 → v_count.toInt ≤ v_count_13.toInt → v_at.toInt ≤ v_at_13.toInt → ((v_fault_13.toInt ≠ 0) ∨ (v_at.toInt + v_count_13.toInt ≤ v_at_13.toInt + v_count.toInt)) → v_count_13.toInt ≤ v_count.toInt + 1 → v_at_13.toInt ≤ v_at.toInt + 1 → v_at.toInt + v_count_13.toInt ≤ v_at_13.toInt + v_count.toInt → ((v_count_13.toInt = v_count.toInt ∧ v_at_13.toInt = v_at.toInt ∧ v_groups_c_pending_13.toInt = v_groups_c_pending.toInt ∧ v_groups_c_rowFirst_13.toInt = v_groups_c_rowFirst.toInt ∧ v_groups_c_rowLast_13.toInt = v_groups_c_rowLast.toInt ∧ v_groups_c_rowCount_13.toInt = v_groups_c_rowCount.toInt ∧ r1.toInt = 0) ∨ (v_count_13.toInt = v_count.toInt + 1 ∧ v_groups_c_pending_13.toInt = v_count.toInt ∧ v_at_13.toInt = v_at.toInt + 1)) → rp (fun k v => v = -1 ∨ k < v) v_nextPart_13 0 v_count.toInt → rp (fun k v => v = -1 ∨ k < v) v_nextPart_13 0 v_count_13.toInt → (zrJ gb v_count_13.toInt v_groups_c_pending_13 v_groups_c_rowFirst_13 v_groups_c_rowLast_13 v_groups_c_choiceFirst v_groups_c_choiceLast) → w_X6_readLeaf_13 Q v_fault_13 v_faultPlace_13 v_count_13 v_at_13 r1_2 v_sort_13 v_value_13 v_low_13 v_high_13 v_firstPart_13 v_nextPart_13 v_groups_c_pending_13 v_groups_c_loopable_13 v_groups_c_rowFirst_13 v_groups_c_rowLast_13 v_groups_c_rowCount_13 := by
    intro v_fault_13 v_faultPlace_13 v_count_13 v_at_13 v_sort_13 v_value_13 v_low_13 v_high_13 v_firstPart_13 v_nextPart_13 v_groups_c_pending_13 v_groups_c_loopable_13 v_groups_c_rowFirst_13 v_groups_c_rowLast_13 v_groups_c_rowCount_13 f6 f7 f8 f9 f10 f11 f12 f13 f14 f15 f16 h17 h18 u13_0
    unfold w_X6_readLeaf_13
    exact hq v_fault_13 v_faultPlace_13 v_count_13 v_at_13 r1_2 v_sort_13 v_value_13 v_low_13 v_high_13 v_firstPart_13 v_nextPart_13 v_groups_c_pending_13 v_groups_c_loopable_13 v_groups_c_rowFirst_13 v_groups_c_rowLast_13 v_groups_c_rowCount_13 (by omega) (by omega) (by omega) (by omega) (by omega) (by omega) (by omega) (by omega) (by omega) (by omega) (by omega) (rp_mono h18 (by omega) (by omega)) (rp_mono h18 (by omega) (by omega)) (by assumption)
  refine ⟨fun c4 => ?_, fun c4 => ?_⟩
  · have f19 : r1.toInt = 0 := i_eq (a := r1.toInt) (b := 0) rfl rfl c4
    exact j_13 r1_0 r1_1 v_count v_at v_sort v_value v_low v_high v_firstPart v_nextPart v_groups_c_pending v_groups_c_loopable v_groups_c_rowFirst v_groups_c_rowLast v_groups_c_rowCount (by omega) (by omega) (by omega) (by omega) (by omega) (by omega) (by omega) (by omega) (by omega) (by omega) (by omega) (rp_mono b0 (by omega) (by omega)) (rp_mono b0 (by omega) (by omega)) (by assumption)
  · have f20 : r1.toInt ≠ 0 := i_ne (a := r1.toInt) (b := 0) rfl rfl c4
    refine ok_X6_addLeaf (v_groups_c_choiceFirst := v_groups_c_choiceFirst) (v_groups_c_choiceLast := v_groups_c_choiceLast) (gb := gb) (by omega) (by omega) (by omega) (by omega) (by omega) (by omega) (by omega) (rp_mono b0 (by omega) (by omega)) (by exact u0) (fun i9 e9 g9 l9 => v0 i9 (by omega) g9 l9) (fun r10_0 r10_1 r10_2 r10_3 r10_4 r10_5 r10_6 r10_7 r10_8 r10_9 r10_10 r10_11 r10_12 r10_13 r10_14 f21 f22 f23 f24 f25 f26 f27 h28 u10_0 => ?_)
    exact j_13 r10_0 r10_1 r10_2 r10_3 r10_4 r10_5 r10_6 r10_7 r10_8 r10_9 r10_10 r10_11 r10_12 r10_13 r10_14 (by omega) (by omega) (by omega) (by omega) (by omega) (by omega) (by omega) (by omega) (by omega) (by omega) (by omega) (rp_mono h28 (by omega) (by omega)) (rp_mono h28 (by omega) (by omega)) (by assumption)
set_option maxHeartbeats 4000000 in
theorem ok_X6_readDigits {v_fault : Int32} {v_faultPlace : Int32} {v_count : Int32} {v_depth : Int32} {v_at : Int32} {v_sort : Nat → Int32} {v_value : Nat → Int32} {v_low : Nat → Int32} {v_high : Nat → Int32} {v_firstPart : Nat → Int32} {v_nextPart : Nat → Int32} {v_groups : Nat → Option Nat} {v_tree_ranges : Int32} {v_tree_rangeBegin : Nat → Int32} {v_tree_rangeEnd : Nat → Int32} {v_partBegin : Nat → Int32} {v_partEnd : Nat → Int32} {v_groups_c_pending : Int32} {v_groups_c_rowFirst : Int32} {v_groups_c_rowLast : Int32} {v_groups_c_rowCount : Int32} {v_groups_c_choiceFirst : Int32} {v_groups_c_choiceLast : Int32} {h13 : Nat} {gb : Int} {Q : Int32 → Int32 → Int32 → Int32 → Int32 → (Nat → Int32) → (Nat → Int32) → (Nat → Int32) → (Nat → Int32) → (Nat → Int32) → (Nat → Int32) → Int32 → (Nat → Int32) → (Nat → Int32) → (Nat → Int32) → (Nat → Int32) → Int32 → Bool → Int32 → Int32 → Int32 → Prop} (a0 : 0 ≤ v_count.toInt) (a1 : v_count.toInt ≤ 256) (a2 : 0 ≤ v_tree_ranges.toInt) (a3 : v_tree_ranges.toInt ≤ 512) (a4 : 0 ≤ v_depth.toInt) (a5 : v_depth.toInt ≤ 9) (a6 : 0 ≤ v_at.toInt) (a7 : v_at.toInt ≤ 5000) (a8 : v_count.toInt ≤ 255) (b0 : rp (fun k v => v = -1 ∨ k < v) v_nextPart 0 v_count.toInt) (u0 : zrJ gb v_count.toInt v_groups_c_pending v_groups_c_rowFirst v_groups_c_rowLast v_groups_c_choiceFirst v_groups_c_choiceLast) (v0 : ∀ i9 : Int32, i9.toInt = v_depth.toInt + (0) → 0 ≤ i9.toInt → i9.toInt ≤ 9 → v_groups i9.toNatClampNeg = some h13) (hq : ∀ (ov_fault : Int32) (ov_faultPlace : Int32) (ov_count : Int32) (ov_at : Int32) (ov_partCount : Int32) (ov_sort : Nat → Int32) (ov_value : Nat → Int32) (ov_low : Nat → Int32) (ov_high : Nat → Int32) (ov_firstPart : Nat → Int32) (ov_nextPart : Nat → Int32) (ov_tree_ranges : Int32) (ov_tree_rangeBegin : Nat → Int32) (ov_tree_rangeEnd : Nat → Int32) (ov_partBegin : Nat → Int32) (ov_partEnd : Nat → Int32) (ov_groups_c_pending : Int32) (ov_groups_c_loopable : Bool) (ov_groups_c_rowFirst : Int32) (ov_groups_c_rowLast : Int32) (ov_groups_c_rowCount : Int32), 0 ≤ ov_partCount.toInt → ((ov_partCount.toInt = 0 ∧ 200 ≤ 0) ∨ (0 ≤ 199 ∧ ov_partCount.toInt = 1)) → 0 ≤ ov_tree_ranges.toInt → ov_tree_ranges.toInt ≤ 512 → ov_fault.toInt = v_fault.toInt → ov_faultPlace.toInt = v_faultPlace.toInt → ov_count.toInt = v_count.toInt + 1 → v_tree_ranges.toInt ≤ ov_tree_ranges.toInt → 1 ≤ ov_tree_ranges.toInt → ov_groups_c_pending.toInt = v_count.toInt → (bz ov_groups_c_loopable).toInt = 1 → ((ov_groups_c_rowFirst.toInt = v_groups_c_rowFirst.toInt) ∨ (ov_groups_c_rowFirst.toInt = v_groups_c_pending.toInt)) → ov_at.toInt = v_at.toInt + 1 → rp (fun k v => v = -1 ∨ k < v) ov_nextPart 0 ov_count.toInt → (zrJ gb ov_count.toInt ov_groups_c_pending ov_groups_c_rowFirst ov_groups_c_rowLast v_groups_c_choiceFirst v_groups_c_choiceLast) → Q ov_fault ov_faultPlace ov_count ov_at ov_partCount ov_sort ov_value ov_low ov_high ov_firstPart ov_nextPart ov_tree_ranges ov_tree_rangeBegin ov_tree_rangeEnd ov_partBegin ov_partEnd ov_groups_c_pending ov_groups_c_loopable ov_groups_c_rowFirst ov_groups_c_rowLast ov_groups_c_rowCount) : w_X6_readDigits v_fault v_faultPlace v_count v_depth v_at v_sort v_value v_low v_high v_firstPart v_nextPart v_groups v_tree_ranges v_tree_rangeBegin v_tree_rangeEnd v_partBegin v_partEnd v_groups_c_pending v_groups_c_rowFirst v_groups_c_rowLast v_groups_c_rowCount h13 Q := by
  have q_t : (bz true).toInt = 1 := rfl
  have q_f : (bz false).toInt = 0 := rfl
  have q_0 : (0 : Int32).toInt = 0 := rfl
  have q_48 : (48 : Int32).toInt = 48 := rfl
  have q_57 : (57 : Int32).toInt = 57 := rfl
  unfold w_X6_readDigits
  refine ok_X6_addPart (by omega) (by omega) (fun r10_0 r10_1 r10_2 f1 f2 => ?_)
  refine ok_X6_makeSet (by omega) (by omega) (by omega) (by omega) (by omega) (by omega) (by omega) (by omega) (by omega) (rp_mono b0 (by omega) (by omega)) (fun r16 r16_0 r16_1 r16_2 r16_3 r16_4 r16_5 r16_6 r16_7 r16_8 r16_9 r16_10 r16_11 f3 f4 f5 f6 f7 f8 f9 f10 h11 h12 h13 => ?_)
  refine ok_X6_addOne (v_count := r16_2) (v_groups_c_choiceFirst := v_groups_c_choiceFirst) (v_groups_c_choiceLast := v_groups_c_choiceLast) (gb := gb) (by omega) (by omega) (by omega) (by omega) (rp_mono h13 (by omega) (by omega)) (by exact zrJ_w u0 (by omega)) (by exact zrK_n u0 (by omega) (by omega)) (fun i9 e9 g9 l9 => v0 i9 (by omega) g9 l9) (fun r19_0 r19_1 r19_2 r19_3 r19_4 r19_5 f14 f15 f16 h17 u19_0 => ?_)
  intro x28 ex28
  have f18 : x28.toInt = v_at.toInt + 1 := i_add (a := v_at.toInt) (b := 1) ex28 rfl rfl (by omega) (by omega)
  exact hq r16_0 r16_1 r16_2 x28 r10_0 r16_3 r16_4 r16_5 r16_6 r16_7 r19_0 r16_9 r16_10 r16_11 r10_1 r10_2 r19_1 r19_2 r19_3 r19_4 r19_5 (by omega) (by omega) (by omega) (by omega) (by omega) (by omega) (by omega) (by omega) (by omega) (by omega) (by omega) (by omega) (by omega) (rp_mono h17 (by omega) (by omega)) (by assumption)
set_option maxHeartbeats 4000000 in
theorem ok_X6_readCode {v_text_count : Int32} {v_text_items : Nat → Int32} {nv_text_items : Nat} {v_fault : Int32} {v_faultPlace : Int32} {v_count : Int32} {v_depth : Int32} {v_at : Int32} {v_sort : Nat → Int32} {v_value : Nat → Int32} {v_low : Nat → Int32} {v_high : Nat → Int32} {v_firstPart : Nat → Int32} {v_nextPart : Nat → Int32} {v_groups : Nat → Option Nat} {v_groups_c_pending : Int32} {v_groups_c_loopable : Bool} {v_groups_c_rowFirst : Int32} {v_groups_c_rowLast : Int32} {v_groups_c_rowCount : Int32} {v_groups_c_choiceFirst : Int32} {v_groups_c_choiceLast : Int32} {h10 : Nat} {gb : Int} {Q : Int32 → Int32 → Int32 → Int32 → (Nat → Int32) → (Nat → Int32) → (Nat → Int32) → (Nat → Int32) → (Nat → Int32) → (Nat → Int32) → Int32 → Bool → Int32 → Int32 → Int32 → Prop} (a0 : 0 ≤ v_text_count.toInt) (a1 : v_text_count.toInt ≤ (nv_text_items : Int)) (a2 : (nv_text_items : Int) ≤ 1000) (a3 : 0 ≤ v_count.toInt) (a4 : v_count.toInt ≤ 256) (a5 : 0 ≤ v_depth.toInt) (a6 : v_depth.toInt ≤ 9) (a7 : 0 ≤ v_at.toInt) (a8 : v_at.toInt ≤ 5000) (a9 : v_count.toInt ≤ 255) (b0 : rp (fun k v => v = -1 ∨ k < v) v_nextPart 0 v_count.toInt) (u0 : zrJ gb v_count.toInt v_groups_c_pending v_groups_c_rowFirst v_groups_c_rowLast v_groups_c_choiceFirst v_groups_c_choiceLast) (v0 : ∀ i9 : Int32, i9.toInt = v_depth.toInt + (0) → 0 ≤ i9.toInt → i9.toInt ≤ 9 → v_groups i9.toNatClampNeg = some h10) (hq : ∀ (ov_fault : Int32) (ov_faultPlace : Int32) (ov_count : Int32) (ov_at : Int32) (ov_sort : Nat → Int32) (ov_value : Nat → Int32) (ov_low : Nat → Int32) (ov_high : Nat → Int32) (ov_firstPart : Nat → Int32) (ov_nextPart : Nat → Int32) (ov_groups_c_pending : Int32) (ov_groups_c_loopable : Bool) (ov_groups_c_rowFirst : Int32) (ov_groups_c_rowLast : Int32) (ov_groups_c_rowCount : Int32), v_at.toInt ≤ ov_at.toInt → v_at.toInt + 1 ≤ ov_at.toInt → ov_at.toInt ≤ v_at.toInt + 5 → ov_at.toInt ≤ v_at.toInt + 6 → ov_at.toInt ≤ v_at.toInt + 10 → ov_at.toInt ≤ v_at.toInt + 11 → ov_at.toInt ≤ v_at.toInt + 12 → ov_at.toInt ≤ v_at.toInt + 16 → ov_at.toInt ≤ v_at.toInt + 17 → ov_at.toInt ≤ v_at.toInt + 18 → ov_at.toInt ≤ v_at.toInt + 48 → ov_at.toInt ≤ v_at.toInt + 49 → ov_at.toInt ≤ v_at.toInt + 50 → ov_at.toInt ≤ v_at.toInt + 97 → ov_at.toInt ≤ v_at.toInt + 98 → ov_at.toInt ≤ v_at.toInt + 99 → ov_at.toInt ≤ v_at.toInt + 102 → ov_at.toInt ≤ v_at.toInt + 103 → ov_at.toInt ≤ v_at.toInt + 104 → 0 ≤ ov_at.toInt + 1 → 0 ≤ ov_at.toInt → v_fault.toInt ≤ ov_fault.toInt → ((v_fault.toInt = 0) ∨ (ov_fault.toInt = v_fault.toInt)) → 0 ≤ ov_count.toInt → ov_count.toInt ≤ 256 → v_count.toInt ≤ ov_count.toInt → ((ov_fault.toInt ≠ 0) ∨ (ov_count.toInt + v_at.toInt ≤ ov_at.toInt + v_count.toInt)) → ov_count.toInt ≤ v_count.toInt + 1 → rp (fun k v => v = -1 ∨ k < v) ov_nextPart 0 v_count.toInt → rp (fun k v => v = -1 ∨ k < v) ov_nextPart 0 ov_count.toInt → (zrJ gb ov_count.toInt ov_groups_c_pending ov_groups_c_rowFirst ov_groups_c_rowLast v_groups_c_choiceFirst v_groups_c_choiceLast) → Q ov_fault ov_faultPlace ov_count ov_at ov_sort ov_value ov_low ov_high ov_firstPart ov_nextPart ov_groups_c_pending ov_groups_c_loopable ov_groups_c_rowFirst ov_groups_c_rowLast ov_groups_c_rowCount) : w_X6_readCode v_text_count v_text_items nv_text_items v_fault v_faultPlace v_count v_depth v_at v_sort v_value v_low v_high v_firstPart v_nextPart v_groups v_groups_c_pending v_groups_c_loopable v_groups_c_rowFirst v_groups_c_rowLast v_groups_c_rowCount h10 Q := by
  have q_t : (bz true).toInt = 1 := rfl
  have q_f : (bz false).toInt = 0 := rfl
  have q_0 : (0 : Int32).toInt = 0 := rfl
  unfold w_X6_readCode
  intro x6 ex6
  have f1 : x6.toInt = v_at.toInt + 1 := i_add (a := v_at.toInt) (b := 1) ex6 rfl rfl (by omega) (by omega)
  refine ok_X6_readHex (by omega) (by omega) (by omega) (by omega) (by omega) (fun r11 r11_0 r11_1 r11_2 f2 f3 f4 f5 f6 f7 f8 f9 f10 f11 f12 f13 f14 f15 f16 f17 f18 f19 f20 f21 f22 f23 f24 f25 => ?_)
  have j_34 : ∀ (v_fault_34 : Int32) (v_faultPlace_34 : Int32) (v_count_34 : Int32) (v_sort_34 : Nat → Int32) (v_value_34 : Nat → Int32) (v_low_34 : Nat → Int32) (v_high_34 : Nat → Int32) (v_firstPart_34 : Nat → Int32) (v_nextPart_34 : Nat → Int32) (v_groups_c_pending_34 : Int32) (v_groups_c_loopable_34 : Bool) (v_groups_c_rowFirst_34 : Int32) (v_groups_c_rowLast_34 : Int32) (v_groups_c_rowCount_34 : Int32), v_fault_34.toInt = r11_0.toInt → v_faultPlace_34.toInt = r11_1.toInt → 0 ≤ v_count_34.toInt → v_count_34.toInt ≤ 256 → v_count.toInt ≤ v_count_34.toInt → ((v_fault_34.toInt ≠ 0) ∨ (v_at.toInt + v_count_34.toInt ≤ r11_2.toInt + v_count.toInt)) → v_count_34.toInt ≤ v_count.toInt + 1 → ((v_count_34.toInt = v_count.toInt ∧ v_groups_c_pending_34.toInt = v_groups_c_pending.toInt ∧ v_groups_c_rowFirst_34.toInt = v_groups_c_rowFirst.toInt ∧ v_groups_c_rowLast_34.toInt = v_groups_c_rowLast.toInt ∧ v_groups_c_rowCount_34.toInt = v_groups_c_rowCount.toInt) ∨ (r11_0.toInt = 0 ∧ v_count_34.toInt = v_count.toInt + 1 ∧ v_groups_c_pending_34.toInt = v_count.toInt)) → rp (fun k v => v = -1 ∨ k < v) v_nextPart_34 0 v_count.toInt → rp (fun k v => v = -1 ∨ k < v) v_nextPart_34 0 v_count_34.toInt → (zrJ gb v_count_34.toInt v_groups_c_pending_34 v_groups_c_rowFirst_34 v_groups_c_rowLast_34 v_groups_c_choiceFirst v_groups_c_choiceLast) → w_X6_readCode_34 Q v_fault_34 v_faultPlace_34 v_count_34 r11_2 v_sort_34 v_value_34 v_low_34 v_high_34 v_firstPart_34 v_nextPart_34 v_groups_c_pending_34 v_groups_c_loopable_34 v_groups_c_rowFirst_34 v_groups_c_rowLast_34 v_groups_c_rowCount_34 := by
    intro v_fault_34 v_faultPlace_34 v_count_34 v_sort_34 v_value_34 v_low_34 v_high_34 v_firstPart_34 v_nextPart_34 v_groups_c_pending_34 v_groups_c_loopable_34 v_groups_c_rowFirst_34 v_groups_c_rowLast_34 v_groups_c_rowCount_34 f26 f27 f28 f29 f30 f31 f32 f33 h34 h35 u34_0
    unfold w_X6_readCode_34
    exact hq v_fault_34 v_faultPlace_34 v_count_34 r11_2 v_sort_34 v_value_34 v_low_34 v_high_34 v_firstPart_34 v_nextPart_34 v_groups_c_pending_34 v_groups_c_loopable_34 v_groups_c_rowFirst_34 v_groups_c_rowLast_34 v_groups_c_rowCount_34 (by omega) (by omega) (by omega) (by omega) (by omega) (by omega) (by omega) (by omega) (by omega) (by omega) (by omega) (by omega) (by omega) (by omega) (by omega) (by omega) (by omega) (by omega) (by omega) (by omega) (by omega) (by omega) (by omega) (by omega) (by omega) (by omega) (by omega) (by omega) (rp_mono h35 (by omega) (by omega)) (rp_mono h35 (by omega) (by omega)) (by assumption)
  refine ⟨fun c19 => ?_, fun c19 => ?_⟩
  · have f36 : r11_0.toInt ≠ 0 := i_ne (a := r11_0.toInt) (b := 0) rfl rfl c19
    exact j_34 r11_0 r11_1 v_count v_sort v_value v_low v_high v_firstPart v_nextPart v_groups_c_pending v_groups_c_loopable v_groups_c_rowFirst v_groups_c_rowLast v_groups_c_rowCount (by omega) (by omega) (by omega) (by omega) (by omega) (by omega) (by omega) (by omega) (rp_mono b0 (by omega) (by omega)) (rp_mono b0 (by omega) (by omega)) (by assumption)
  · have f37 : r11_0.toInt = 0 := i_eq (a := r11_0.toInt) (b := 0) rfl rfl c19
    refine ok_X6_make (by omega) (by omega) (by omega) (rp_mono b0 (by omega) (by omega)) (fun r28 r28_0 r28_1 r28_2 r28_3 r28_4 r28_5 r28_6 r28_7 r28_8 f38 f39 f40 f41 h42 h43 h44 => ?_)
    refine ok_X6_addOne (v_count := r28_2) (v_groups_c_choiceFirst := v_groups_c_choiceFirst) (v_groups_c_choiceLast := v_groups_c_choiceLast) (gb := gb) (by omega) (by omega) (by omega) (by omega) (rp_mono h44 (by omega) (by omega)) (by exact zrJ_w u0 (by omega)) (by exact zrK_n u0 (by omega) (by omega)) (fun i9 e9 g9 l9 => v0 i9 (by omega) g9 l9) (fun r31_0 r31_1 r31_2 r31_3 r31_4 r31_5 f45 f46 f47 h48 u31_0 => ?_)
    exact j_34 r28_0 r28_1 r28_2 r28_3 r28_4 r28_5 r28_6 r28_7 r31_0 r31_1 r31_2 r31_3 r31_4 r31_5 (by omega) (by omega) (by omega) (by omega) (by omega) (by omega) (by omega) (by omega) (rp_mono h48 (by omega) (by omega)) (rp_mono h48 (by omega) (by omega)) (by assumption)
set_option maxHeartbeats 4000000 in
theorem ok_X6_readWordSigns {v_fault : Int32} {v_faultPlace : Int32} {v_count : Int32} {v_depth : Int32} {v_at : Int32} {v_sort : Nat → Int32} {v_value : Nat → Int32} {v_low : Nat → Int32} {v_high : Nat → Int32} {v_firstPart : Nat → Int32} {v_nextPart : Nat → Int32} {v_groups : Nat → Option Nat} {v_tree_ranges : Int32} {v_tree_rangeBegin : Nat → Int32} {v_tree_rangeEnd : Nat → Int32} {v_partBegin : Nat → Int32} {v_partEnd : Nat → Int32} {v_groups_c_pending : Int32} {v_groups_c_rowFirst : Int32} {v_groups_c_rowLast : Int32} {v_groups_c_rowCount : Int32} {v_groups_c_choiceFirst : Int32} {v_groups_c_choiceLast : Int32} {h13 : Nat} {gb : Int} {Q : Int32 → Int32 → Int32 → Int32 → Int32 → (Nat → Int32) → (Nat → Int32) → (Nat → Int32) → (Nat → Int32) → (Nat → Int32) → (Nat → Int32) → Int32 → (Nat → Int32) → (Nat → Int32) → (Nat → Int32) → (Nat → Int32) → Int32 → Bool → Int32 → Int32 → Int32 → Prop} (a0 : 0 ≤ v_count.toInt) (a1 : v_count.toInt ≤ 256) (a2 : 0 ≤ v_tree_ranges.toInt) (a3 : v_tree_ranges.toInt ≤ 512) (a4 : 0 ≤ v_depth.toInt) (a5 : v_depth.toInt ≤ 9) (a6 : 0 ≤ v_at.toInt) (a7 : v_at.toInt ≤ 5000) (a8 : v_count.toInt ≤ 255) (b0 : rp (fun k v => v = -1 ∨ k < v) v_nextPart 0 v_count.toInt) (u0 : zrJ gb v_count.toInt v_groups_c_pending v_groups_c_rowFirst v_groups_c_rowLast v_groups_c_choiceFirst v_groups_c_choiceLast) (v0 : ∀ i9 : Int32, i9.toInt = v_depth.toInt + (0) → 0 ≤ i9.toInt → i9.toInt ≤ 9 → v_groups i9.toNatClampNeg = some h13) (hq : ∀ (ov_fault : Int32) (ov_faultPlace : Int32) (ov_count : Int32) (ov_at : Int32) (ov_partCount : Int32) (ov_sort : Nat → Int32) (ov_value : Nat → Int32) (ov_low : Nat → Int32) (ov_high : Nat → Int32) (ov_firstPart : Nat → Int32) (ov_nextPart : Nat → Int32) (ov_tree_ranges : Int32) (ov_tree_rangeBegin : Nat → Int32) (ov_tree_rangeEnd : Nat → Int32) (ov_partBegin : Nat → Int32) (ov_partEnd : Nat → Int32) (ov_groups_c_pending : Int32) (ov_groups_c_loopable : Bool) (ov_groups_c_rowFirst : Int32) (ov_groups_c_rowLast : Int32) (ov_groups_c_rowCount : Int32), 0 ≤ ov_tree_ranges.toInt → ov_tree_ranges.toInt ≤ 512 → ov_fault.toInt = v_fault.toInt → ov_faultPlace.toInt = v_faultPlace.toInt → ov_count.toInt = v_count.toInt + 1 → v_tree_ranges.toInt ≤ ov_tree_ranges.toInt → 1 ≤ ov_tree_ranges.toInt → ov_groups_c_pending.toInt = v_count.toInt → (bz ov_groups_c_loopable).toInt = 1 → ((ov_groups_c_rowFirst.toInt = v_groups_c_rowFirst.toInt) ∨ (ov_groups_c_rowFirst.toInt = v_groups_c_pending.toInt)) → ov_at.toInt = v_at.toInt + 1 → 4 ≤ ov_partCount.toInt → ov_partCount.toInt ≤ 4 → rp (fun k v => v = -1 ∨ k < v) ov_nextPart 0 ov_count.toInt → (zrJ gb ov_count.toInt ov_groups_c_pending ov_groups_c_rowFirst ov_groups_c_rowLast v_groups_c_choiceFirst v_groups_c_choiceLast) → Q ov_fault ov_faultPlace ov_count ov_at ov_partCount ov_sort ov_value ov_low ov_high ov_firstPart ov_nextPart ov_tree_ranges ov_tree_rangeBegin ov_tree_rangeEnd ov_partBegin ov_partEnd ov_groups_c_pending ov_groups_c_loopable ov_groups_c_rowFirst ov_groups_c_rowLast ov_groups_c_rowCount) : w_X6_readWordSigns v_fault v_faultPlace v_count v_depth v_at v_sort v_value v_low v_high v_firstPart v_nextPart v_groups v_tree_ranges v_tree_rangeBegin v_tree_rangeEnd v_partBegin v_partEnd v_groups_c_pending v_groups_c_rowFirst v_groups_c_rowLast v_groups_c_rowCount h13 Q := by
  have q_t : (bz true).toInt = 1 := rfl
  have q_f : (bz false).toInt = 0 := rfl
  have q_0 : (0 : Int32).toInt = 0 := rfl
  have q_48 : (48 : Int32).toInt = 48 := rfl
  have q_57 : (57 : Int32).toInt = 57 := rfl
  have q_65 : (65 : Int32).toInt = 65 := rfl
  have q_90 : (90 : Int32).toInt = 90 := rfl
  have q_95 : (95 : Int32).toInt = 95 := rfl
  have q_97 : (97 : Int32).toInt = 97 := rfl
  have q_122 : (122 : Int32).toInt = 122 := rfl
  unfold w_X6_readWordSigns
  refine ok_X6_addPart (by omega) (by omega) (fun r10_0 r10_1 r10_2 f1 f2 => ?_)
  refine ok_X6_addPart (by omega) (by omega) (fun r18_0 r18_1 r18_2 f3 f4 => ?_)
  refine ok_X6_addPart (by omega) (by omega) (fun r26_0 r26_1 r26_2 f5 f6 => ?_)
  refine ok_X6_addPart (by omega) (by omega) (fun r34_0 r34_1 r34_2 f7 f8 => ?_)
  refine ok_X6_makeSet (by omega) (by omega) (by omega) (by omega) (by omega) (by omega) (by omega) (by omega) (by omega) (rp_mono b0 (by omega) (by omega)) (fun r40 r40_0 r40_1 r40_2 r40_3 r40_4 r40_5 r40_6 r40_7 r40_8 r40_9 r40_10 r40_11 f9 f10 f11 f12 f13 f14 f15 f16 h17 h18 h19 => ?_)
  refine ok_X6_addOne (v_count := r40_2) (v_groups_c_choiceFirst := v_groups_c_choiceFirst) (v_groups_c_choiceLast := v_groups_c_choiceLast) (gb := gb) (by omega) (by omega) (by omega) (by omega) (rp_mono h19 (by omega) (by omega)) (by exact zrJ_w u0 (by omega)) (by exact zrK_n u0 (by omega) (by omega)) (fun i9 e9 g9 l9 => v0 i9 (by omega) g9 l9) (fun r43_0 r43_1 r43_2 r43_3 r43_4 r43_5 f20 f21 f22 h23 u43_0 => ?_)
  intro x52 ex52
  have f24 : x52.toInt = v_at.toInt + 1 := i_add (a := v_at.toInt) (b := 1) ex52 rfl rfl (by omega) (by omega)
  exact hq r40_0 r40_1 r40_2 x52 r34_0 r40_3 r40_4 r40_5 r40_6 r40_7 r43_0 r40_9 r40_10 r40_11 r34_1 r34_2 r43_1 r43_2 r43_3 r43_4 r43_5 (by omega) (by omega) (by omega) (by omega) (by omega) (by omega) (by omega) (by omega) (by omega) (by omega) (by omega) (by omega) (by omega) (rp_mono h23 (by omega) (by omega)) (by assumption)
set_option maxHeartbeats 4000000 in
theorem ok_J7_fill_53178_v1 {p1 : Int32} {a0_ : Nat → Int32} {Q : (Nat → Int32) → Prop} (hq : ∀ (oa0_ : Nat → Int32), Q oa0_) : w_J7_fill_53178_v1 p1 a0_ Q := by
  have q_t : (bz true).toInt = 1 := rfl
  have q_f : (bz false).toInt = 0 := rfl
  have q_0 : (0 : Int32).toInt = 0 := rfl
  have q_26 : (26 : Int32).toInt = 26 := rfl
  unfold w_J7_fill_53178_v1
  have j_5 : ∀ n_5 : Nat, ∀ (l2_5 : Int32) (a0__5 : Nat → Int32), 0 ≤ l2_5.toInt → ((-1) * l2_5.toInt + 2147483648).toNat < n_5 → w_J7_fill_53178_v1_5 p1 Q 26 n_5 l2_5 a0__5 := by
    intro n_5
    induction n_5 with
    | zero =>
      intro l2_5 a0__5 f1 hm_5
      exfalso; omega
    | succ n_5 ih_5 =>
      intro l2_5 a0__5 f1 hm_5
      unfold w_J7_fill_53178_v1_5
      unfold w_J7_fill_53178_v1_5B
      refine ⟨fun c7 => ?_, fun c7 => ?_⟩
      · have f2 : 26 ≤ l2_5.toInt := i_le (a := 26) (b := l2_5.toInt) rfl rfl c7
        exact hq a0__5 
      · have f3 : l2_5.toInt < 26 := i_nle (a := 26) (b := l2_5.toInt) rfl rfl c7
        refine ⟨i_in (by omega) (by omega), ?_⟩
        intro g13 eg13
        intro x14 ex14
        have f4 : x14.toInt = l2_5.toInt + 1 := i_add (a := l2_5.toInt) (b := 1) ex14 rfl rfl (by omega) (by omega)
        exact ih_5 x14 g13  (by omega) (by have h8_0 := i_rng l2_5; have h8_1 := i_rng x14; omega)
  exact ⟨(2147483648 : Int).toNat + 1, j_5   ((2147483648 : Int).toNat + 1) 0 a0_  (by omega) (by omega)⟩
