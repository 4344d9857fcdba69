set_option maxHeartbeats 4000000 in
theorem ok_X2_begin {p1 : Int32} {p2 : Int32} {p3 : Int32} {Q : Int32 → Int32 → Int32 → Int32 → Bool → Int32 → Int32 → Int32 → Int32 → Int32 → Int32 → Prop} (hq : ∀ (ov_sort : Int32) (ov_value : Int32) (ov_name : Int32) (ov_pending : Int32) (ov_loopable : Bool) (ov_rowFirst : Int32) (ov_rowLast : Int32) (ov_rowCount : Int32) (ov_choiceFirst : Int32) (ov_choiceLast : Int32) (ov_choiceCount : Int32), ov_sort.toInt = p1.toInt → ov_value.toInt = p2.toInt → ov_name.toInt = p3.toInt → ov_choiceFirst.toInt + 1 = 0 → ov_choiceLast.toInt + 1 = 0 → ov_choiceCount.toInt = 0 → ov_pending.toInt + 1 = 0 → (bz ov_loopable).toInt = 0 → ov_rowFirst.toInt + 1 = 0 → ov_rowLast.toInt + 1 = 0 → ov_rowCount.toInt = 0 → Q ov_sort ov_value ov_name ov_pending ov_loopable ov_rowFirst ov_rowLast ov_rowCount ov_choiceFirst ov_choiceLast ov_choiceCount) : w_X2_begin p1 p2 p3 Q := by
  have q_t : (bz true).toInt = 1 := rfl
  have q_f : (bz false).toInt = 0 := rfl
  have q_m1 : ((-1) : Int32).toInt = (-1) := rfl
  have q_0 : (0 : Int32).toInt = 0 := rfl
  unfold w_X2_begin
  refine ok_X2_beginRow  (fun r31_0 r31_1 r31_2 r31_3 r31_4 f1 f2 f3 f4 f5 => ?_)
  exact hq p1 p2 p3 r31_0 r31_1 r31_2 r31_3 r31_4 (-1) (-1) 0 (by omega) (by omega) (by omega) (by omega) (by omega) (by omega) (by omega) (by omega) (by omega) (by omega) (by omega)
set_option maxHeartbeats 4000000 in
theorem ok_X6_begin {v_groups : Nat → Option Nat} {v_captureOfName : Nat → Int32} {h5 : Nat} {Q : Int32 → Int32 → Int32 → Int32 → Int32 → Int32 → Bool → Int32 → Int32 → Int32 → (Nat → Int32) → Int32 → Int32 → Int32 → Int32 → Bool → Int32 → Int32 → Int32 → Int32 → Int32 → Int32 → Prop} (v0 : v_groups 0 = some h5) (hq : ∀ (ov_fault : Int32) (ov_faultPlace : Int32) (ov_count : Int32) (ov_depth : Int32) (ov_at : Int32) (ov_items : Int32) (ov_tree_there : Bool) (ov_tree_count : Int32) (ov_tree_captures : Int32) (ov_tree_ranges : Int32) (ov_captureOfName : Nat → Int32) (ov_groups_z_sort : Int32) (ov_groups_z_value : Int32) (ov_groups_z_name : Int32) (ov_groups_z_pending : Int32) (ov_groups_z_loopable : Bool) (ov_groups_z_rowFirst : Int32) (ov_groups_z_rowLast : Int32) (ov_groups_z_rowCount : Int32) (ov_groups_z_choiceFirst : Int32) (ov_groups_z_choiceLast : Int32) (ov_groups_z_choiceCount : Int32), ov_fault.toInt = 0 → ov_faultPlace.toInt + 1 = 0 → ov_count.toInt = 0 → ov_depth.toInt = 0 → ov_at.toInt = 0 → ov_items.toInt = 0 → (bz ov_tree_there).toInt = 0 → ov_tree_count.toInt = 0 → ov_tree_captures.toInt = 0 → ov_tree_ranges.toInt = 0 → ov_groups_z_sort.toInt + 1 = 0 → ov_groups_z_value.toInt = 0 → ov_groups_z_name.toInt = 0 → ov_groups_z_choiceFirst.toInt + 1 = 0 → ov_groups_z_choiceLast.toInt + 1 = 0 → ov_groups_z_choiceCount.toInt = 0 → ov_groups_z_pending.toInt + 1 = 0 → (bz ov_groups_z_loopable).toInt = 0 → ov_groups_z_rowFirst.toInt + 1 = 0 → ov_groups_z_rowLast.toInt + 1 = 0 → ov_groups_z_rowCount.toInt = 0 → Q ov_fault ov_faultPlace ov_count ov_depth ov_at ov_items ov_tree_there ov_tree_count ov_tree_captures ov_tree_ranges ov_captureOfName ov_groups_z_sort ov_groups_z_value ov_groups_z_name ov_groups_z_pending ov_groups_z_loopable ov_groups_z_rowFirst ov_groups_z_rowLast ov_groups_z_rowCount ov_groups_z_choiceFirst ov_groups_z_choiceLast ov_groups_z_choiceCount) : w_X6_begin v_groups v_captureOfName h5 Q := by
  have q_t : (bz true).toInt = 1 := rfl
  have q_f : (bz false).toInt = 0 := rfl
  have q_m1 : ((-1) : Int32).toInt = (-1) := rfl
  have q_0 : (0 : Int32).toInt = 0 := rfl
  unfold w_X6_begin
  refine ok_X10_reset  (fun r100009_0 r100009_1 r100009_2 r100009_3 f1 f2 f3 f4 => ?_)
  refine ok_J7_fill_53178_v1  (fun r200047_0 => ?_)
  refine ok_X6_openGroup (by omega) (by omega) (fun i9 e9 g9 l9 => by rw [show i9.toNatClampNeg = 0 from i_cln (by omega)]; exact v0) (fun r200051 f5 => ?_)
  refine ⟨i_ne0 (by omega), ?_⟩
  refine ok_X2_begin  (fun r200057_0 r200057_1 r200057_2 r200057_3 r200057_4 r200057_5 r200057_6 r200057_7 r200057_8 r200057_9 r200057_10 f6 f7 f8 f9 f10 f11 f12 f13 f14 f15 f16 => ?_)
  exact hq 0 (-1) 0 0 0 0 r100009_0 r100009_1 r100009_2 r100009_3 r200047_0 r200057_0 r200057_1 r200057_2 r200057_3 r200057_4 r200057_5 r200057_6 r200057_7 r200057_8 r200057_9 r200057_10 (by omega) (by omega) (by omega) (by omega) (by omega) (by omega) (by omega) (by omega) (by omega) (by omega) (by omega) (by omega) (by omega) (by omega) (by omega) (by omega) (by omega) (by omega) (by omega) (by omega) (by omega)
set_option maxHeartbeats 4000000 in
theorem ok_X6_readOtherEscape {p1 : Int32} {v_fault : Int32} {v_faultPlace : Int32} {v_count : Int32} {v_depth : Int32} {v_at : Int32} {v_sort : Nat → Int32} {v_value : Nat → Int32} {v_low : Nat → Int32} {v_high : Nat → Int32} {v_firstPart : Nat → Int32} {v_nextPart : Nat → Int32} {v_groups : Nat → Option Nat} {v_tree_captures : Int32} {v_groups_c_pending : Int32} {v_groups_c_loopable : Bool} {v_groups_c_rowFirst : Int32} {v_groups_c_rowLast : Int32} {v_groups_c_rowCount : Int32} {v_groups_c_choiceFirst : Int32} {v_groups_c_choiceLast : Int32} {h9 : Nat} {gb : Int} {Q : Int32 → Int32 → Int32 → Int32 → (Nat → Int32) → (Nat → Int32) → (Nat → Int32) → (Nat → Int32) → (Nat → Int32) → (Nat → Int32) → Int32 → Bool → Int32 → Int32 → Int32 → Prop} (a0 : 0 ≤ v_count.toInt) (a1 : v_count.toInt ≤ 256) (a2 : 0 ≤ v_depth.toInt) (a3 : v_depth.toInt ≤ 9) (a4 : 0 ≤ v_at.toInt) (a5 : v_at.toInt ≤ 5000) (a6 : v_count.toInt ≤ 255) (b0 : rp (fun k v => v = -1 ∨ k < v) v_nextPart 0 v_count.toInt) (u0 : zrJ gb v_count.toInt v_groups_c_pending v_groups_c_rowFirst v_groups_c_rowLast v_groups_c_choiceFirst v_groups_c_choiceLast) (v0 : ∀ i9 : Int32, i9.toInt = v_depth.toInt + (0) → 0 ≤ i9.toInt → i9.toInt ≤ 9 → v_groups i9.toNatClampNeg = some h9) (hq : ∀ (ov_fault : Int32) (ov_faultPlace : Int32) (ov_count : Int32) (ov_at : Int32) (ov_sort : Nat → Int32) (ov_value : Nat → Int32) (ov_low : Nat → Int32) (ov_high : Nat → Int32) (ov_firstPart : Nat → Int32) (ov_nextPart : Nat → Int32) (ov_groups_c_pending : Int32) (ov_groups_c_loopable : Bool) (ov_groups_c_rowFirst : Int32) (ov_groups_c_rowLast : Int32) (ov_groups_c_rowCount : Int32), 0 ≤ ov_count.toInt → ov_count.toInt ≤ 256 → v_fault.toInt ≤ ov_fault.toInt → v_count.toInt ≤ ov_count.toInt → v_at.toInt ≤ ov_at.toInt → ((ov_fault.toInt ≠ 0) ∨ (ov_count.toInt + v_at.toInt ≤ ov_at.toInt + v_count.toInt)) → ov_count.toInt ≤ v_count.toInt + 1 → ov_at.toInt ≤ v_at.toInt + 1 → ((v_fault.toInt = 0) ∨ (ov_fault.toInt = v_fault.toInt)) → ov_count.toInt + v_at.toInt ≤ ov_at.toInt + v_count.toInt → rp (fun k v => v = -1 ∨ k < v) ov_nextPart 0 ov_count.toInt → rp (fun k v => v = -1 ∨ k < v) ov_nextPart 0 v_count.toInt → (zrJ gb ov_count.toInt ov_groups_c_pending ov_groups_c_rowFirst ov_groups_c_rowLast v_groups_c_choiceFirst v_groups_c_choiceLast) → Q ov_fault ov_faultPlace ov_count ov_at ov_sort ov_value ov_low ov_high ov_firstPart ov_nextPart ov_groups_c_pending ov_groups_c_loopable ov_groups_c_rowFirst ov_groups_c_rowLast ov_groups_c_rowCount) : w_X6_readOtherEscape p1 v_fault v_faultPlace v_count v_depth v_at v_sort v_value v_low v_high v_firstPart v_nextPart v_groups v_tree_captures v_groups_c_pending v_groups_c_loopable v_groups_c_rowFirst v_groups_c_rowLast v_groups_c_rowCount h9 Q := by
  have q_t : (bz true).toInt = 1 := rfl
  have q_f : (bz false).toInt = 0 := rfl
  have q_0 : (0 : Int32).toInt = 0 := rfl
  have q_1 : (1 : Int32).toInt = 1 := rfl
  have q_3 : (3 : Int32).toInt = 3 := rfl
  have q_4 : (4 : Int32).toInt = 4 := rfl
  unfold w_X6_readOtherEscape
  refine ok_X11_isDigit  (fun r1 f1 => ?_)
  have j_90 : ∀ (v_fault_90 : Int32) (v_faultPlace_90 : Int32) (v_count_90 : Int32) (v_at_90 : Int32) (v_sort_90 : Nat → Int32) (v_value_90 : Nat → Int32) (v_low_90 : Nat → Int32) (v_high_90 : Nat → Int32) (v_firstPart_90 : Nat → Int32) (v_nextPart_90 : Nat → Int32) (v_groups_c_pending_90 : Int32) (v_groups_c_loopable_90 : Bool) (v_groups_c_rowFirst_90 : Int32) (v_groups_c_rowLast_90 : Int32) (v_groups_c_rowCount_90 : Int32), 0 ≤ v_count_90.toInt → v_count_90.toInt ≤ 256 → v_fault.toInt ≤ v_fault_90.toInt → v_count.toInt ≤ v_count_90.toInt → v_at.toInt ≤ v_at_90.toInt → ((v_fault_90.toInt ≠ 0) ∨ (v_at.toInt + v_count_90.toInt ≤ v_at_90.toInt + v_count.toInt)) → v_count_90.toInt ≤ v_count.toInt + 1 → v_at_90.toInt ≤ v_at.toInt + 1 → ((v_fault.toInt = 0) ∨ (v_fault_90.toInt = v_fault.toInt)) → v_at.toInt + v_count_90.toInt ≤ v_at_90.toInt + v_count.toInt → rp (fun k v => v = -1 ∨ k < v) v_nextPart_90 0 v_count_90.toInt → rp (fun k v => v = -1 ∨ k < v) v_nextPart_90 0 v_count.toInt → (zrJ gb v_count_90.toInt v_groups_c_pending_90 v_groups_c_rowFirst_90 v_groups_c_rowLast_90 v_groups_c_choiceFirst v_groups_c_choiceLast) → w_X6_readOtherEscape_90 Q v_fault_90 v_faultPlace_90 v_count_90 v_at_90 v_sort_90 v_value_90 v_low_90 v_high_90 v_firstPart_90 v_nextPart_90 v_groups_c_pending_90 v_groups_c_loopable_90 v_groups_c_rowFirst_90 v_groups_c_rowLast_90 v_groups_c_rowCount_90 := by
    intro v_fault_90 v_faultPlace_90 v_count_90 v_at_90 v_sort_90 v_value_90 v_low_90 v_high_90 v_firstPart_90 v_nextPart_90 v_groups_c_pending_90 v_groups_c_loopable_90 v_groups_c_rowFirst_90 v_groups_c_rowLast_90 v_groups_c_rowCount_90 f2 f3 f4 f5 f6 f7 f8 f9 f10 f11 h12 h13 u90_0
    unfold w_X6_readOtherEscape_90
    exact hq v_fault_90 v_faultPlace_90 v_count_90 v_at_90 v_sort_90 v_value_90 v_low_90 v_high_90 v_firstPart_90 v_nextPart_90 v_groups_c_pending_90 v_groups_c_loopable_90 v_groups_c_rowFirst_90 v_groups_c_rowLast_90 v_groups_c_rowCount_90 (by omega) (by omega) (by omega) (by omega) (by omega) (by omega) (by omega) (by omega) (by omega) (by omega) (rp_mono h12 (by omega) (by omega)) (rp_mono h13 (by omega) (by omega)) (by assumption)
  have j_51 : ((r1.toInt = 0) ∨ (p1.toInt = 48)) → w_X6_readOtherEscape_51 p1 v_depth v_groups h9 Q v_fault v_faultPlace v_count v_at v_sort v_value v_low v_high v_firstPart v_nextPart v_groups_c_pending v_groups_c_loopable v_groups_c_rowFirst v_groups_c_rowLast v_groups_c_rowCount := by
    intro f14
    unfold w_X6_readOtherEscape_51
    refine ok_X11_isTapeSign  (fun r52 f15 => ?_)
    have j_81 : w_X6_readOtherEscape_81 Q v_fault v_faultPlace v_count v_at v_sort v_value v_low v_high v_firstPart v_nextPart v_groups_c_pending v_groups_c_loopable v_groups_c_rowFirst v_groups_c_rowLast v_groups_c_rowCount := by
      unfold w_X6_readOtherEscape_81
      refine ok_X6_blame  (fun r87_0 r87_1 f16 f17 => ?_)
      exact j_90 r87_0 r87_1 v_count v_at v_sort v_value v_low v_high v_firstPart v_nextPart v_groups_c_pending v_groups_c_loopable v_groups_c_rowFirst v_groups_c_rowLast v_groups_c_rowCount (by omega) (by omega) (by omega) (by omega) (by omega) (by omega) (by omega) (by omega) (by omega) (by omega) (rp_mono b0 (by omega) (by omega)) (rp_mono b0 (by omega) (by omega)) (by assumption)
    refine ⟨fun c55 => ?_, fun c55 => ?_⟩
    · have f18 : r52.toInt = 0 := i_eq (a := r52.toInt) (b := 0) rfl rfl c55
      exact j_81  
    · have f19 : r52.toInt ≠ 0 := i_ne (a := r52.toInt) (b := 0) rfl rfl c55
      refine ok_X11_isLetter  (fun r59 f20 => ?_)
      refine ⟨fun c62 => ?_, fun c62 => ?_⟩
      · have f21 : r59.toInt ≠ 0 := i_ne (a := r59.toInt) (b := 0) rfl rfl c62
        exact j_81  
      · have f22 : r59.toInt = 0 := i_eq (a := r59.toInt) (b := 0) rfl rfl c62
        refine ok_X11_isDigit  (fun r66 f23 => ?_)
        refine ⟨fun c69 => ?_, fun c69 => ?_⟩
        · have f24 : r66.toInt ≠ 0 := i_ne (a := r66.toInt) (b := 0) rfl rfl c69
          exact j_81  
        · have f25 : r66.toInt = 0 := i_eq (a := r66.toInt) (b := 0) rfl rfl c69
          refine ok_X6_addLeaf (v_groups_c_choiceFirst := v_groups_c_choiceFirst) (v_groups_c_choiceLast := v_groups_c_choiceLast) (gb := gb) (by omega) (by omega) (by omega) (by omega) (by omega) (by omega) (by omega) (rp_mono b0 (by omega) (by omega)) (by exact u0) (fun i9 e9 g9 l9 => v0 i9 (by omega) g9 l9) (fun r75_0 r75_1 r75_2 r75_3 r75_4 r75_5 r75_6 r75_7 r75_8 r75_9 r75_10 r75_11 r75_12 r75_13 r75_14 f26 f27 f28 f29 f30 f31 f32 h33 u75_0 => ?_)
          exact j_90 r75_0 r75_1 r75_2 r75_3 r75_4 r75_5 r75_6 r75_7 r75_8 r75_9 r75_10 r75_11 r75_12 r75_13 r75_14 (by omega) (by omega) (by omega) (by omega) (by omega) (by omega) (by omega) (by omega) (by omega) (by omega) (rp_mono h33 (by omega) (by omega)) (rp_mono h33 (by omega) (by omega)) (by assumption)
  refine ⟨fun c4 => ?_, fun c4 => ?_⟩
  · have f34 : r1.toInt = 0 := i_eq (a := r1.toInt) (b := 0) rfl rfl c4
    exact j_51  (by omega)
  · have f35 : r1.toInt ≠ 0 := i_ne (a := r1.toInt) (b := 0) rfl rfl c4
    refine ⟨fun c10 => ?_, fun c10 => ?_⟩
    · have f36 : p1.toInt = 48 := i_eq (a := p1.toInt) (b := 48) rfl rfl c10
      exact j_51  (by omega)
    · have f37 : p1.toInt ≠ 48 := i_ne (a := p1.toInt) (b := 48) rfl rfl c10
      intro x16 ex16
      have f38 : x16.toInt = p1.toInt - 48 := i_sub (a := p1.toInt) (b := 48) ex16 rfl rfl (by omega) (by omega)
      refine ⟨fun c24 => ?_, fun c24 => ?_⟩
      · have f39 : x16.toInt ≤ v_tree_captures.toInt := i_le (a := x16.toInt) (b := v_tree_captures.toInt) rfl rfl c24
        intro x44 ex44
        have f40 : x44.toInt = p1.toInt - 48 := i_sub (a := p1.toInt) (b := 48) ex44 rfl rfl (by omega) (by omega)
        refine ok_X6_addLeaf (v_groups_c_choiceFirst := v_groups_c_choiceFirst) (v_groups_c_choiceLast := v_groups_c_choiceLast) (gb := gb) (by omega) (by omega) (by omega) (by omega) (by omega) (by omega) (by omega) (rp_mono b0 (by omega) (by omega)) (by exact u0) (fun i9 e9 g9 l9 => v0 i9 (by omega) g9 l9) (fun r45_0 r45_1 r45_2 r45_3 r45_4 r45_5 r45_6 r45_7 r45_8 r45_9 r45_10 r45_11 r45_12 r45_13 r45_14 f41 f42 f43 f44 f45 f46 f47 h48 u45_0 => ?_)
        exact j_90 r45_0 r45_1 r45_2 r45_3 r45_4 r45_5 r45_6 r45_7 r45_8 r45_9 r45_10 r45_11 r45_12 r45_13 r45_14 (by omega) (by omega) (by omega) (by omega) (by omega) (by omega) (by omega) (by omega) (by omega) (by omega) (rp_mono h48 (by omega) (by omega)) (rp_mono h48 (by omega) (by omega)) (by assumption)
      · have f49 : v_tree_captures.toInt < x16.toInt := i_nle (a := x16.toInt) (b := v_tree_captures.toInt) rfl rfl c24
        refine ok_X6_blame  (fun r33_0 r33_1 f50 f51 => ?_)
        exact j_90 r33_0 r33_1 v_count v_at v_sort v_value v_low v_high v_firstPart v_nextPart v_groups_c_pending v_groups_c_loopable v_groups_c_rowFirst v_groups_c_rowLast v_groups_c_rowCount (by omega) (by omega) (by omega) (by omega) (by omega) (by omega) (by omega) (by omega) (by omega) (by omega) (rp_mono b0 (by omega) (by omega)) (rp_mono b0 (by omega) (by omega)) (by assumption)
set_option maxHeartbeats 4000000 in
theorem ok_X6_readBackByName {v_text_count : Int32} {v_text_items : Nat → Int32} {nv_text_items : Nat} {v_fault : Int32} {v_faultPlace : Int32} {v_count : Int32} {v_depth : Int32} {v_at : Int32} {v_sort : Nat → Int32} {v_value : Nat → Int32} {v_low : Nat → Int32} {v_high : Nat → Int32} {v_firstPart : Nat → Int32} {v_nextPart : Nat → Int32} {v_groups : Nat → Option Nat} {v_captureOfName : Nat → Int32} {v_groups_c_pending : Int32} {v_groups_c_loopable : Bool} {v_groups_c_rowFirst : Int32} {v_groups_c_rowLast : Int32} {v_groups_c_rowCount : Int32} {v_groups_c_choiceFirst : Int32} {v_groups_c_choiceLast : Int32} {h11 : Nat} {gb : Int} {Q : Int32 → Int32 → Int32 → Int32 → (Nat → Int32) → (Nat → Int32) → (Nat → Int32) → (Nat → Int32) → (Nat → Int32) → (Nat → Int32) → Int32 → Bool → Int32 → Int32 → Int32 → Prop} (a0 : 0 ≤ v_text_count.toInt) (a1 : v_text_count.toInt ≤ (nv_text_items : Int)) (a2 : (nv_text_items : Int) ≤ 1000) (a3 : 0 ≤ v_count.toInt) (a4 : v_count.toInt ≤ 256) (a5 : 0 ≤ v_depth.toInt) (a6 : v_depth.toInt ≤ 9) (a7 : 0 ≤ v_at.toInt) (a8 : v_at.toInt ≤ 5000) (a9 : v_count.toInt ≤ 255) (b0 : rp (fun k v => v = -1 ∨ k < v) v_nextPart 0 v_count.toInt) (u0 : zrJ gb v_count.toInt v_groups_c_pending v_groups_c_rowFirst v_groups_c_rowLast v_groups_c_choiceFirst v_groups_c_choiceLast) (v0 : ∀ i9 : Int32, i9.toInt = v_depth.toInt + (0) → 0 ≤ i9.toInt → i9.toInt ≤ 9 → v_groups i9.toNatClampNeg = some h11) (hq : ∀ (ov_fault : Int32) (ov_faultPlace : Int32) (ov_count : Int32) (ov_at : Int32) (ov_sort : Nat → Int32) (ov_value : Nat → Int32) (ov_low : Nat → Int32) (ov_high : Nat → Int32) (ov_firstPart : Nat → Int32) (ov_nextPart : Nat → Int32) (ov_groups_c_pending : Int32) (ov_groups_c_loopable : Bool) (ov_groups_c_rowFirst : Int32) (ov_groups_c_rowLast : Int32) (ov_groups_c_rowCount : Int32), 0 ≤ ov_count.toInt → ov_count.toInt ≤ 256 → v_fault.toInt ≤ ov_fault.toInt → v_count.toInt ≤ ov_count.toInt → v_at.toInt ≤ ov_at.toInt → ((ov_fault.toInt ≠ 0) ∨ (ov_count.toInt + v_at.toInt ≤ ov_at.toInt + v_count.toInt)) → ov_count.toInt ≤ v_count.toInt + 1 → ov_at.toInt ≤ v_at.toInt + 2 → ((v_fault.toInt = 0) ∨ (ov_fault.toInt = v_fault.toInt)) → ov_count.toInt + v_at.toInt ≤ ov_at.toInt + v_count.toInt → 1 ≤ ov_at.toInt → rp (fun k v => v = -1 ∨ k < v) ov_nextPart 0 ov_count.toInt → rp (fun k v => v = -1 ∨ k < v) ov_nextPart 0 v_count.toInt → (zrJ gb ov_count.toInt ov_groups_c_pending ov_groups_c_rowFirst ov_groups_c_rowLast v_groups_c_choiceFirst v_groups_c_choiceLast) → Q ov_fault ov_faultPlace ov_count ov_at ov_sort ov_value ov_low ov_high ov_firstPart ov_nextPart ov_groups_c_pending ov_groups_c_loopable ov_groups_c_rowFirst ov_groups_c_rowLast ov_groups_c_rowCount) : w_X6_readBackByName v_text_count v_text_items nv_text_items v_fault v_faultPlace v_count v_depth v_at v_sort v_value v_low v_high v_firstPart v_nextPart v_groups v_captureOfName v_groups_c_pending v_groups_c_loopable v_groups_c_rowFirst v_groups_c_rowLast v_groups_c_rowCount h11 Q := by
  have q_t : (bz true).toInt = 1 := rfl
  have q_f : (bz false).toInt = 0 := rfl
  have q_1 : (1 : Int32).toInt = 1 := rfl
  have q_3 : (3 : Int32).toInt = 3 := rfl
  have q_4 : (4 : Int32).toInt = 4 := rfl
  unfold w_X6_readBackByName
  intro x6 ex6
  have f1 : x6.toInt = v_at.toInt + 1 := i_add (a := v_at.toInt) (b := 1) ex6 rfl rfl (by omega) (by omega)
  refine ok_X6_here (by omega) (by omega) (by omega) (fun r11 f2 => ?_)
  refine ok_X11_isSmall  (fun r16 f3 => ?_)
  have j_72 : ∀ (v_fault_72 : Int32) (v_faultPlace_72 : Int32) (v_count_72 : Int32) (v_at_72 : Int32) (v_sort_72 : Nat → Int32) (v_value_72 : Nat → Int32) (v_low_72 : Nat → Int32) (v_high_72 : Nat → Int32) (v_firstPart_72 : Nat → Int32) (v_nextPart_72 : Nat → Int32) (v_groups_c_pending_72 : Int32) (v_groups_c_loopable_72 : Bool) (v_groups_c_rowFirst_72 : Int32) (v_groups_c_rowLast_72 : Int32) (v_groups_c_rowCount_72 : Int32), 0 ≤ v_count_72.toInt → v_count_72.toInt ≤ 256 → v_fault.toInt ≤ v_fault_72.toInt → v_count.toInt ≤ v_count_72.toInt → v_at.toInt ≤ v_at_72.toInt → ((v_fault_72.toInt ≠ 0) ∨ (v_at.toInt + v_count_72.toInt ≤ v_at_72.toInt + v_count.toInt)) → v_count_72.toInt ≤ v_count.toInt + 1 → v_at_72.toInt ≤ v_at.toInt + 2 → ((v_fault.toInt = 0) ∨ (v_fault_72.toInt = v_fault.toInt)) → v_at.toInt + v_count_72.toInt ≤ v_at_72.toInt + v_count.toInt → 1 ≤ v_at_72.toInt → rp (fun k v => v = -1 ∨ k < v) v_nextPart_72 0 v_count_72.toInt → rp (fun k v => v = -1 ∨ k < v) v_nextPart_72 0 v_count.toInt → (zrJ gb v_count_72.toInt v_groups_c_pending_72 v_groups_c_rowFirst_72 v_groups_c_rowLast_72 v_groups_c_choiceFirst v_groups_c_choiceLast) → w_X6_readBackByName_72 Q v_fault_72 v_faultPlace_72 v_count_72 v_at_72 v_sort_72 v_value_72 v_low_72 v_high_72 v_firstPart_72 v_nextPart_72 v_groups_c_pending_72 v_groups_c_loopable_72 v_groups_c_rowFirst_72 v_groups_c_rowLast_72 v_groups_c_rowCount_72 := by
    intro v_fault_72 v_faultPlace_72 v_count_72 v_at_72 v_sort_72 v_value_72 v_low_72 v_high_72 v_firstPart_72 v_nextPart_72 v_groups_c_pending_72 v_groups_c_loopable_72 v_groups_c_rowFirst_72 v_groups_c_rowLast_72 v_groups_c_rowCount_72 f4 f5 f6 f7 f8 f9 f10 f11 f12 f13 f14 h15 h16 u72_0
    unfold w_X6_readBackByName_72
    exact hq v_fault_72 v_faultPlace_72 v_count_72 v_at_72 v_sort_72 v_value_72 v_low_72 v_high_72 v_firstPart_72 v_nextPart_72 v_groups_c_pending_72 v_groups_c_loopable_72 v_groups_c_rowFirst_72 v_groups_c_rowLast_72 v_groups_c_rowCount_72 (by omega) (by omega) (by omega) (by omega) (by omega) (by omega) (by omega) (by omega) (by omega) (by omega) (by omega) (rp_mono h15 (by omega) (by omega)) (rp_mono h16 (by omega) (by omega)) (by assumption)
  refine ⟨fun c19 => ?_, fun c19 => ?_⟩
  · have f17 : r16.toInt ≠ 0 := i_ne (a := r16.toInt) (b := 0) rfl rfl c19
    intro x41 ex41
    have f18 : x41.toInt = r11.toInt - 97 := i_sub (a := r11.toInt) (b := 97) ex41 rfl rfl (by omega) (by omega)
    refine ⟨i_in (by omega) (by omega), ?_⟩
    intro x42 ex42
    refine ⟨fun c43 => ?_, fun c43 => ?_⟩
    · have f19 : x42.toInt ≠ 0 := i_ne (a := x42.toInt) (b := 0) rfl rfl c43
      intro x67 ex67
      have f20 : x67.toInt = r11.toInt - 97 := i_sub (a := r11.toInt) (b := 97) ex67 rfl rfl (by omega) (by omega)
      refine ⟨i_in (by omega) (by omega), ?_⟩
      intro x68 ex68
      refine ok_X6_addLeaf (v_groups_c_choiceFirst := v_groups_c_choiceFirst) (v_groups_c_choiceLast := v_groups_c_choiceLast) (gb := gb) (by omega) (by omega) (by omega) (by omega) (by omega) (by omega) (by omega) (rp_mono b0 (by omega) (by omega)) (by exact u0) (fun i9 e9 g9 l9 => v0 i9 (by omega) g9 l9) (fun r69_0 r69_1 r69_2 r69_3 r69_4 r69_5 r69_6 r69_7 r69_8 r69_9 r69_10 r69_11 r69_12 r69_13 r69_14 f21 f22 f23 f24 f25 f26 f27 h28 u69_0 => ?_)
      exact j_72 r69_0 r69_1 r69_2 r69_3 r69_4 r69_5 r69_6 r69_7 r69_8 r69_9 r69_10 r69_11 r69_12 r69_13 r69_14 (by omega) (by omega) (by omega) (by omega) (by omega) (by omega) (by omega) (by omega) (by omega) (by omega) (by omega) (rp_mono h28 (by omega) (by omega)) (rp_mono h28 (by omega) (by omega)) (by assumption)
    · have f29 : x42.toInt = 0 := i_eq (a := x42.toInt) (b := 0) rfl rfl c43
      refine ok_X6_blame  (fun r52_0 r52_1 f30 f31 => ?_)
      exact j_72 r52_0 r52_1 v_count x6 v_sort v_value v_low v_high v_firstPart v_nextPart v_groups_c_pending v_groups_c_loopable v_groups_c_rowFirst v_groups_c_rowLast v_groups_c_rowCount (by omega) (by omega) (by omega) (by omega) (by omega) (by omega) (by omega) (by omega) (by omega) (by omega) (by omega) (rp_mono b0 (by omega) (by omega)) (rp_mono b0 (by omega) (by omega)) (by assumption)
  · have f32 : r16.toInt = 0 := i_eq (a := r16.toInt) (b := 0) rfl rfl c19
    refine ok_X6_blame  (fun r28_0 r28_1 f33 f34 => ?_)
    exact j_72 r28_0 r28_1 v_count x6 v_sort v_value v_low v_high v_firstPart v_nextPart v_groups_c_pending v_groups_c_loopable v_groups_c_rowFirst v_groups_c_rowLast v_groups_c_rowCount (by omega) (by omega) (by omega) (by omega) (by omega) (by omega) (by omega) (by omega) (by omega) (by omega) (by omega) (rp_mono b0 (by omega) (by omega)) (rp_mono b0 (by omega) (by omega)) (by assumption)
set_option maxHeartbeats 4000000 in
theorem ok_X6_readEscape {v_text_count : Int32} {v_text_items : Nat → Int32} {nv_text_items : Nat} {v_fault : Int32} {v_faultPlace : Int32} {v_count : Int32} {v_depth : Int32} {v_at : Int32} {v_items : Int32} {v_partCount : Int32} {v_sort : Nat → Int32} {v_value : Nat → Int32} {v_low : Nat → Int32} {v_high : Nat → Int32} {v_firstPart : Nat → Int32} {v_nextPart : Nat → Int32} {v_groups : Nat → Option Nat} {v_tree_captures : Int32} {v_tree_ranges : Int32} {v_tree_rangeBegin : Nat → Int32} {v_tree_rangeEnd : Nat → Int32} {v_captureOfName : Nat → Int32} {v_partBegin : Nat → Int32} {v_partEnd : Nat → Int32} {v_groups_c_pending : Int32} {v_groups_c_loopable : Bool} {v_groups_c_rowFirst : Int32} {v_groups_c_rowLast : Int32} {v_groups_c_rowCount : Int32} {v_groups_c_choiceFirst : Int32} {v_groups_c_choiceLast : Int32} {h16 : Nat} {gb : Int} {Q : Int32 → Int32 → Int32 → Int32 → Int32 → Int32 → (Nat → Int32) → (Nat → Int32) → (Nat → Int32) → (Nat → Int32) → (Nat → Int32) → (Nat → Int32) → Int32 → (Nat → Int32) → (Nat → Int32) → (Nat → Int32) → (Nat → Int32) → Int32 → Bool → Int32 → Int32 → Int32 → Prop} (a0 : 0 ≤ v_text_count.toInt) (a1 : v_text_count.toInt ≤ (nv_text_items : Int)) (a2 : (nv_text_items : Int) ≤ 1000) (a3 : 0 ≤ v_count.toInt) (a4 : v_count.toInt ≤ 256) (a5 : 0 ≤ v_partCount.toInt) (a6 : v_partCount.toInt ≤ 200) (a7 : 0 ≤ v_tree_ranges.toInt) (a8 : v_tree_ranges.toInt ≤ 512) (a9 : 0 ≤ v_depth.toInt) (a10 : v_depth.toInt ≤ 9) (a11 : 0 ≤ v_at.toInt) (a12 : v_at.toInt ≤ 4000) (a13 : v_count.toInt ≤ 255) (b0 : rp (fun k v => v = -1 ∨ k < v) v_nextPart 0 v_count.toInt) (u0 : zrJ gb v_count.toInt v_groups_c_pending v_groups_c_rowFirst v_groups_c_rowLast v_groups_c_choiceFirst v_groups_c_choiceLast) (v0 : ∀ i9 : Int32, i9.toInt = v_depth.toInt + (0) → 0 ≤ i9.toInt → i9.toInt ≤ 9 → v_groups i9.toNatClampNeg = some h16) (hq : ∀ (ov_fault : Int32) (ov_faultPlace : Int32) (ov_count : Int32) (ov_at : Int32) (ov_items : Int32) (ov_partCount : Int32) (ov_sort : Nat → Int32) (ov_value : Nat → Int32) (ov_low : Nat → Int32) (ov_high : Nat → Int32) (ov_firstPart : Nat → Int32) (ov_nextPart : Nat → Int32) (ov_tree_ranges : Int32) (ov_tree_rangeBegin : Nat → Int32) (ov_tree_rangeEnd : Nat → Int32) (ov_partBegin : Nat → Int32) (ov_partEnd : Nat → Int32) (ov_groups_c_pending : Int32) (ov_groups_c_loopable : Bool) (ov_groups_c_rowFirst : Int32) (ov_groups_c_rowLast : Int32) (ov_groups_c_rowCount : Int32), v_fault.toInt ≤ ov_fault.toInt → v_count.toInt ≤ ov_count.toInt → v_at.toInt ≤ ov_at.toInt → v_tree_ranges.toInt ≤ ov_tree_ranges.toInt → ov_count.toInt ≤ 256 → ov_at.toInt ≤ 5632 → 0 ≤ ov_partCount.toInt → ov_partCount.toInt ≤ 200 → ov_tree_ranges.toInt ≤ 512 → ((ov_fault.toInt ≠ 0) ∨ (ov_count.toInt + v_at.toInt ≤ ov_at.toInt + v_count.toInt)) → ov_count.toInt ≤ v_count.toInt + 1 → ov_at.toInt ≤ v_at.toInt + 8 → ((v_fault.toInt = 0) ∨ (ov_fault.toInt = v_fault.toInt)) → rp (fun k v => v = -1 ∨ k < v) ov_nextPart 0 v_count.toInt → rp (fun k v => v = -1 ∨ k < v) ov_nextPart 0 ov_count.toInt → (zrJ gb ov_count.toInt ov_groups_c_pending ov_groups_c_rowFirst ov_groups_c_rowLast v_groups_c_choiceFirst v_groups_c_choiceLast) → Q ov_fault ov_faultPlace ov_count ov_at ov_items ov_partCount ov_sort ov_value ov_low ov_high ov_firstPart ov_nextPart ov_tree_ranges ov_tree_rangeBegin ov_tree_rangeEnd ov_partBegin ov_partEnd ov_groups_c_pending ov_groups_c_loopable ov_groups_c_rowFirst ov_groups_c_rowLast ov_groups_c_rowCount) : w_X6_readEscape v_text_count v_text_items nv_text_items v_fault v_faultPlace v_count v_depth v_at v_items v_partCount v_sort v_value v_low v_high v_firstPart v_nextPart v_groups v_tree_captures v_tree_ranges v_tree_rangeBegin v_tree_rangeEnd v_captureOfName v_partBegin v_partEnd v_groups_c_pending v_groups_c_loopable v_groups_c_rowFirst v_groups_c_rowLast v_groups_c_rowCount h16 Q := by
  have q_t : (bz true).toInt = 1 := rfl
  have q_f : (bz false).toInt = 0 := rfl
  have q_2 : (2 : Int32).toInt = 2 := rfl
  have q_3 : (3 : Int32).toInt = 3 := rfl
  unfold w_X6_readEscape
  refine ok_X6_countItem  (fun r1 r1_0 r1_1 r1_2 f1 f2 f3 f4 f5 => ?_)
  refine ⟨fun c4 => ?_, fun c4 => ?_⟩
  · have f6 : r1.toInt ≠ 0 := i_ne (a := r1.toInt) (b := 0) rfl rfl c4
    intro x14 ex14
    have f7 : x14.toInt = v_at.toInt + 1 := i_add (a := v_at.toInt) (b := 1) ex14 rfl rfl (by omega) (by omega)
    refine ok_X6_here (by omega) (by omega) (by omega) (fun r19 f8 => ?_)
    have j_135 : ∀ (v_fault_135 : Int32) (v_faultPlace_135 : Int32) (v_count_135 : Int32) (v_at_135 : Int32) (v_partCount_135 : Int32) (v_sort_135 : Nat → Int32) (v_value_135 : Nat → Int32) (v_low_135 : Nat → Int32) (v_high_135 : Nat → Int32) (v_firstPart_135 : Nat → Int32) (v_nextPart_135 : Nat → Int32) (v_tree_ranges_135 : Int32) (v_tree_rangeBegin_135 : Nat → Int32) (v_tree_rangeEnd_135 : Nat → Int32) (v_partBegin_135 : Nat → Int32) (v_partEnd_135 : Nat → Int32) (v_groups_c_pending_135 : Int32) (v_groups_c_loopable_135 : Bool) (v_groups_c_rowFirst_135 : Int32) (v_groups_c_rowLast_135 : Int32) (v_groups_c_rowCount_135 : Int32), 0 ≤ v_count_135.toInt → v_count_135.toInt ≤ 256 → 0 ≤ v_partCount_135.toInt → v_partCount_135.toInt ≤ 200 → 0 ≤ v_tree_ranges_135.toInt → v_tree_ranges_135.toInt ≤ 512 → v_fault.toInt ≤ v_fault_135.toInt → v_count.toInt ≤ v_count_135.toInt → v_at.toInt ≤ v_at_135.toInt → v_tree_ranges.toInt ≤ v_tree_ranges_135.toInt → ((v_fault_135.toInt ≠ 0) ∨ (v_at.toInt + v_count_135.toInt ≤ v_at_135.toInt + v_count.toInt)) → v_count_135.toInt ≤ v_count.toInt + 1 → v_at_135.toInt ≤ v_at.toInt + 8 → v_at.toInt + v_count_135.toInt ≤ v_at_135.toInt + v_count.toInt → 1 ≤ v_at_135.toInt → rp (fun k v => v = -1 ∨ k < v) v_nextPart_135 0 v_count_135.toInt → rp (fun k v => v = -1 ∨ k < v) v_nextPart_135 0 v_count.toInt → (zrJ gb v_count_135.toInt v_groups_c_pending_135 v_groups_c_rowFirst_135 v_groups_c_rowLast_135 v_groups_c_choiceFirst v_groups_c_choiceLast) → w_X6_readEscape_135 Q v_fault_135 v_faultPlace_135 v_count_135 v_at_135 r1_2 v_partCount_135 v_sort_135 v_value_135 v_low_135 v_high_135 v_firstPart_135 v_nextPart_135 v_tree_ranges_135 v_tree_rangeBegin_135 v_tree_rangeEnd_135 v_partBegin_135 v_partEnd_135 v_groups_c_pending_135 v_groups_c_loopable_135 v_groups_c_rowFirst_135 v_groups_c_rowLast_135 v_groups_c_rowCount_135 := by
      intro v_fault_135 v_faultPlace_135 v_count_135 v_at_135 v_partCount_135 v_sort_135 v_value_135 v_low_135 v_high_135 v_firstPart_135 v_nextPart_135 v_tree_ranges_135 v_tree_rangeBegin_135 v_tree_rangeEnd_135 v_partBegin_135 v_partEnd_135 v_groups_c_pending_135 v_groups_c_loopable_135 v_groups_c_rowFirst_135 v_groups_c_rowLast_135 v_groups_c_rowCount_135 f9 f10 f11 f12 f13 f14 f15 f16 f17 f18 f19 f20 f21 f22 f23 h24 h25 u135_0
      unfold w_X6_readEscape_135
      exact hq v_fault_135 v_faultPlace_135 v_count_135 v_at_135 r1_2 v_partCount_135 v_sort_135 v_value_135 v_low_135 v_high_135 v_firstPart_135 v_nextPart_135 v_tree_ranges_135 v_tree_rangeBegin_135 v_tree_rangeEnd_135 v_partBegin_135 v_partEnd_135 v_groups_c_pending_135 v_groups_c_loopable_135 v_groups_c_rowFirst_135 v_groups_c_rowLast_135 v_groups_c_rowCount_135 (by omega) (by omega) (by omega) (by omega) (by omega) (by omega) (by omega) (by omega) (by omega) (by omega) (by omega) (by omega) (by omega) (rp_mono h25 (by omega) (by omega)) (rp_mono h24 (by omega) (by omega)) (by assumption)
    refine ⟨fun c24_0 => ?_, fun c24_1 => ?_, fun c24_2 => ?_, fun c24_3 => ?_, fun c24_4 => ?_, fun c24_5 => ?_, ?_⟩
    · have f26 : r19.toInt = 64 := i_eq (a := r19.toInt) (b := 64) rfl rfl c24_0
      refine ok_X6_readBackByName (v_groups_c_choiceFirst := v_groups_c_choiceFirst) (v_groups_c_choiceLast := v_groups_c_choiceLast) (gb := gb) (by omega) (by omega) (by omega) (by omega) (by omega) (by omega) (by omega) (by omega) (by omega) (by omega) (rp_mono b0 (by omega) (by omega)) (by exact u0) (fun i9 e9 g9 l9 => v0 i9 (by omega) g9 l9) (fun r124_0 r124_1 r124_2 r124_3 r124_4 r124_5 r124_6 r124_7 r124_8 r124_9 r124_10 r124_11 r124_12 r124_13 r124_14 f27 f28 f29 f30 f31 f32 f33 f34 f35 f36 f37 h38 h39 u124_0 => ?_)
      exact j_135 r124_0 r124_1 r124_2 r124_3 v_partCount r124_4 r124_5 r124_6 r124_7 r124_8 r124_9 v_tree_ranges v_tree_rangeBegin v_tree_rangeEnd v_partBegin v_partEnd r124_10 r124_11 r124_12 r124_13 r124_14 (by omega) (by omega) (by omega) (by omega) (by omega) (by omega) (by omega) (by omega) (by omega) (by omega) (by omega) (by omega) (by omega) (by omega) (by omega) (rp_mono h38 (by omega) (by omega)) (rp_mono h39 (by omega) (by omega)) (by assumption)
    · have f40 : r19.toInt = 66 := i_eq (a := r19.toInt) (b := 66) rfl rfl c24_1
      refine ok_X6_addLeaf (v_groups_c_choiceFirst := v_groups_c_choiceFirst) (v_groups_c_choiceLast := v_groups_c_choiceLast) (gb := gb) (by omega) (by omega) (by omega) (by omega) (by omega) (by omega) (by omega) (rp_mono b0 (by omega) (by omega)) (by exact u0) (fun i9 e9 g9 l9 => v0 i9 (by omega) g9 l9) (fun r96_0 r96_1 r96_2 r96_3 r96_4 r96_5 r96_6 r96_7 r96_8 r96_9 r96_10 r96_11 r96_12 r96_13 r96_14 f41 f42 f43 f44 f45 f46 f47 h48 u96_0 => ?_)
      exact j_135 r96_0 r96_1 r96_2 r96_3 v_partCount r96_4 r96_5 r96_6 r96_7 r96_8 r96_9 v_tree_ranges v_tree_rangeBegin v_tree_rangeEnd v_partBegin v_partEnd r96_10 r96_11 r96_12 r96_13 r96_14 (by omega) (by omega) (by omega) (by omega) (by omega) (by omega) (by omega) (by omega) (by omega) (by omega) (by omega) (by omega) (by omega) (by omega) (by omega) (rp_mono h48 (by omega) (by omega)) (rp_mono h48 (by omega) (by omega)) (by assumption)
    · have f49 : r19.toInt = 98 := i_eq (a := r19.toInt) (b := 98) rfl rfl c24_2
      refine ok_X6_addLeaf (v_groups_c_choiceFirst := v_groups_c_choiceFirst) (v_groups_c_choiceLast := v_groups_c_choiceLast) (gb := gb) (by omega) (by omega) (by omega) (by omega) (by omega) (by omega) (by omega) (rp_mono b0 (by omega) (by omega)) (by exact u0) (fun i9 e9 g9 l9 => v0 i9 (by omega) g9 l9) (fun r87_0 r87_1 r87_2 r87_3 r87_4 r87_5 r87_6 r87_7 r87_8 r87_9 r87_10 r87_11 r87_12 r87_13 r87_14 f50 f51 f52 f53 f54 f55 f56 h57 u87_0 => ?_)
      exact j_135 r87_0 r87_1 r87_2 r87_3 v_partCount r87_4 r87_5 r87_6 r87_7 r87_8 r87_9 v_tree_ranges v_tree_rangeBegin v_tree_rangeEnd v_partBegin v_partEnd r87_10 r87_11 r87_12 r87_13 r87_14 (by omega) (by omega) (by omega) (by omega) (by omega) (by omega) (by omega) (by omega) (by omega) (by omega) (by omega) (by omega) (by omega) (by omega) (by omega) (rp_mono h57 (by omega) (by omega)) (rp_mono h57 (by omega) (by omega)) (by assumption)
    · have f58 : r19.toInt = 100 := i_eq (a := r19.toInt) (b := 100) rfl rfl c24_3
      refine ok_X6_readDigits (v_groups_c_choiceFirst := v_groups_c_choiceFirst) (v_groups_c_choiceLast := v_groups_c_choiceLast) (gb := gb) (by omega) (by omega) (by omega) (by omega) (by omega) (by omega) (by omega) (by omega) (by omega) (rp_mono b0 (by omega) (by omega)) (by exact u0) (fun i9 e9 g9 l9 => v0 i9 (by omega) g9 l9) (fun r103_0 r103_1 r103_2 r103_3 r103_4 r103_5 r103_6 r103_7 r103_8 r103_9 r103_10 r103_11 r103_12 r103_13 r103_14 r103_15 r103_16 r103_17 r103_18 r103_19 r103_20 f59 f60 f61 f62 f63 f64 f65 f66 f67 f68 f69 f70 f71 h72 u103_0 => ?_)
      exact j_135 r103_0 r103_1 r103_2 r103_3 r103_4 r103_5 r103_6 r103_7 r103_8 r103_9 r103_10 r103_11 r103_12 r103_13 r103_14 r103_15 r103_16 r103_17 r103_18 r103_19 r103_20 (by omega) (by omega) (by omega) (by omega) (by omega) (by omega) (by omega) (by omega) (by omega) (by omega) (by omega) (by omega) (by omega) (by omega) (by omega) (rp_mono h72 (by omega) (by omega)) (rp_mono h72 (by omega) (by omega)) (by assumption)
    · have f73 : r19.toInt = 119 := i_eq (a := r19.toInt) (b := 119) rfl rfl c24_4
      refine ok_X6_readWordSigns (v_groups_c_choiceFirst := v_groups_c_choiceFirst) (v_groups_c_choiceLast := v_groups_c_choiceLast) (gb := gb) (by omega) (by omega) (by omega) (by omega) (by omega) (by omega) (by omega) (by omega) (by omega) (rp_mono b0 (by omega) (by omega)) (by exact u0) (fun i9 e9 g9 l9 => v0 i9 (by omega) g9 l9) (fun r110_0 r110_1 r110_2 r110_3 r110_4 r110_5 r110_6 r110_7 r110_8 r110_9 r110_10 r110_11 r110_12 r110_13 r110_14 r110_15 r110_16 r110_17 r110_18 r110_19 r110_20 f74 f75 f76 f77 f78 f79 f80 f81 f82 f83 f84 f85 f86 h87 u110_0 => ?_)
      exact j_135 r110_0 r110_1 r110_2 r110_3 r110_4 r110_5 r110_6 r110_7 r110_8 r110_9 r110_10 r110_11 r110_12 r110_13 r110_14 r110_15 r110_16 r110_17 r110_18 r110_19 r110_20 (by omega) (by omega) (by omega) (by omega) (by omega) (by omega) (by omega) (by omega) (by omega) (by omega) (by omega) (by omega) (by omega) (by omega) (by omega) (rp_mono h87 (by omega) (by omega)) (rp_mono h87 (by omega) (by omega)) (by assumption)
    · have f88 : r19.toInt = 120 := i_eq (a := r19.toInt) (b := 120) rfl rfl c24_5
      refine ok_X6_readCode (v_groups_c_choiceFirst := v_groups_c_choiceFirst) (v_groups_c_choiceLast := v_groups_c_choiceLast) (gb := gb) (by omega) (by omega) (by omega) (by omega) (by omega) (by omega) (by omega) (by omega) (by omega) (by omega) (rp_mono b0 (by omega) (by omega)) (by exact u0) (fun i9 e9 g9 l9 => v0 i9 (by omega) g9 l9) (fun r117_0 r117_1 r117_2 r117_3 r117_4 r117_5 r117_6 r117_7 r117_8 r117_9 r117_10 r117_11 r117_12 r117_13 r117_14 f89 f90 f91 f92 f93 f94 f95 f96 f97 f98 f99 f100 f101 f102 f103 f104 f105 f106 f107 f108 f109 f110 f111 f112 f113 f114 f115 f116 h117 h118 u117_0 => ?_)
      exact j_135 r117_0 r117_1 r117_2 r117_3 v_partCount r117_4 r117_5 r117_6 r117_7 r117_8 r117_9 v_tree_ranges v_tree_rangeBegin v_tree_rangeEnd v_partBegin v_partEnd r117_10 r117_11 r117_12 r117_13 r117_14 (by omega) (by omega) (by omega) (by omega) (by omega) (by omega) (by omega) (by omega) (by omega) (by omega) (by omega) (by omega) (by omega) (by omega) (by omega) (rp_mono h118 (by omega) (by omega)) (rp_mono h118 (by omega) (by omega)) (by assumption)
    · intro c24_0 c24_1 c24_2 c24_3 c24_4 c24_5
      have f119 : r19.toInt ≠ 64 := i_ne (a := r19.toInt) (b := 64) rfl rfl c24_0
      have f120 : r19.toInt ≠ 66 := i_ne (a := r19.toInt) (b := 66) rfl rfl c24_1
      have f121 : r19.toInt ≠ 98 := i_ne (a := r19.toInt) (b := 98) rfl rfl c24_2
      have f122 : r19.toInt ≠ 100 := i_ne (a := r19.toInt) (b := 100) rfl rfl c24_3
      have f123 : r19.toInt ≠ 119 := i_ne (a := r19.toInt) (b := 119) rfl rfl c24_4
      have f124 : r19.toInt ≠ 120 := i_ne (a := r19.toInt) (b := 120) rfl rfl c24_5
      refine ok_X6_readOtherEscape (v_groups_c_choiceFirst := v_groups_c_choiceFirst) (v_groups_c_choiceLast := v_groups_c_choiceLast) (gb := gb) (by omega) (by omega) (by omega) (by omega) (by omega) (by omega) (by omega) (rp_mono b0 (by omega) (by omega)) (by exact u0) (fun i9 e9 g9 l9 => v0 i9 (by omega) g9 l9) (fun r132_0 r132_1 r132_2 r132_3 r132_4 r132_5 r132_6 r132_7 r132_8 r132_9 r132_10 r132_11 r132_12 r132_13 r132_14 f125 f126 f127 f128 f129 f130 f131 f132 f133 f134 h135 h136 u132_0 => ?_)
      exact j_135 r132_0 r132_1 r132_2 r132_3 v_partCount r132_4 r132_5 r132_6 r132_7 r132_8 r132_9 v_tree_ranges v_tree_rangeBegin v_tree_rangeEnd v_partBegin v_partEnd r132_10 r132_11 r132_12 r132_13 r132_14 (by omega) (by omega) (by omega) (by omega) (by omega) (by omega) (by omega) (by omega) (by omega) (by omega) (by omega) (by omega) (by omega) (by omega) (by omega) (rp_mono h135 (by omega) (by omega)) (rp_mono h136 (by omega) (by omega)) (by assumption)
  · have f137 : r1.toInt = 0 := i_eq (a := r1.toInt) (b := 0) rfl rfl c4
    exact hq r1_0 r1_1 v_count v_at r1_2 v_partCount v_sort v_value v_low v_high v_firstPart v_nextPart v_tree_ranges v_tree_rangeBegin v_tree_rangeEnd v_partBegin v_partEnd v_groups_c_pending v_groups_c_loopable v_groups_c_rowFirst v_groups_c_rowLast v_groups_c_rowCount (by omega) (by omega) (by omega) (by omega) (by omega) (by omega) (by omega) (by omega) (by omega) (by omega) (by omega) (by omega) (by omega) (rp_mono b0 (by omega) (by omega)) (rp_mono b0 (by omega) (by omega)) (by assumption)
set_option maxHeartbeats 4000000 in
theorem ok_X6_skipComment {v_text_count : Int32} {v_text_items : Nat → Int32} {nv_text_items : Nat} {v_fault : Int32} {v_faultPlace : Int32} {v_depth : Int32} {v_at : Int32} {v_groups : Nat → Option Nat} {v_groups_c_loopable : Bool} {h4 : Nat} {Q : Int32 → Int32 → Int32 → Bool → Prop} (a0 : 0 ≤ v_text_count.toInt) (a1 : v_text_count.toInt ≤ (nv_text_items : Int)) (a2 : (nv_text_items : Int) ≤ 1000) (a3 : 0 ≤ v_depth.toInt) (a4 : v_depth.toInt ≤ 9) (a5 : 0 ≤ v_at.toInt) (a6 : v_at.toInt ≤ 1000) (v0 : ∀ i9 : Int32, i9.toInt = v_depth.toInt + (0) → 0 ≤ i9.toInt → i9.toInt ≤ 9 → v_groups i9.toNatClampNeg = some h4) (hq : ∀ (ov_fault : Int32) (ov_faultPlace : Int32) (ov_at : Int32) (ov_groups_c_loopable : Bool), 0 ≤ ov_at.toInt → 1 ≤ ov_at.toInt → 2 ≤ ov_at.toInt → v_fault.toInt ≤ ov_fault.toInt → v_at.toInt ≤ ov_at.toInt → ov_at.toInt ≤ 1023 → ((v_fault.toInt = 0) ∨ (ov_fault.toInt = v_fault.toInt)) → Q ov_fault ov_faultPlace ov_at ov_groups_c_loopable) : w_X6_skipComment v_text_count v_text_items nv_text_items v_fault v_faultPlace v_depth v_at v_groups v_groups_c_loopable h4 Q := by
  have q_t : (bz true).toInt = 1 := rfl
  have q_f : (bz false).toInt = 0 := rfl
  have q_1 : (1 : Int32).toInt = 1 := rfl
  unfold w_X6_skipComment
  intro x5 ex5
  have f1 : x5.toInt = v_at.toInt + 2 := i_add (a := v_at.toInt) (b := 2) ex5 rfl rfl (by omega) (by omega)
  have j_7 : ∀ n_7 : Nat, ∀ (l1_7 : Int32), v_at.toInt + 2 ≤ l1_7.toInt → ((l1_7.toInt ≤ v_at.toInt + 2) ∨ (l1_7.toInt ≤ v_text_count.toInt)) → ((-1) * l1_7.toInt + 2147483648).toNat < n_7 → w_X6_skipComment_7 v_text_count v_text_items nv_text_items v_depth v_groups h4 Q v_fault v_faultPlace v_at v_groups_c_loopable n_7 l1_7 := by
    intro n_7
    induction n_7 with
    | zero =>
      intro l1_7 f2 f3 hm_7
      exfalso; omega
    | succ n_7 ih_7 =>
      intro l1_7 f2 f3 hm_7
      unfold w_X6_skipComment_7
      unfold w_X6_skipComment_7B
      have j_37 : ((v_text_count.toInt ≤ l1_7.toInt) ∨ (l1_7.toInt + 1 ≤ v_text_count.toInt)) → w_X6_skipComment_37 v_text_count v_depth v_groups h4 Q l1_7 v_fault v_faultPlace v_at v_groups_c_loopable := by
        intro f4
        unfold w_X6_skipComment_37
        refine ⟨fun c50 => ?_, fun c50 => ?_⟩
        · have f5 : l1_7.toInt < v_text_count.toInt := i_lt (a := l1_7.toInt) (b := v_text_count.toInt) rfl rfl c50
          intro x69 ex69
          have f6 : x69.toInt = l1_7.toInt + 1 := i_add (a := l1_7.toInt) (b := 1) ex69 rfl rfl (by omega) (by omega)
          refine ok_X6_openGroup (by omega) (by omega) (fun i9 e9 g9 l9 => v0 i9 (by omega) g9 l9) (fun r74 f7 => ?_)
          refine ⟨i_ne0 (by omega), ?_⟩
          exact hq v_fault v_faultPlace x69 false (by omega) (by omega) (by omega) (by omega) (by omega) (by omega) (by omega)
        · have f8 : v_text_count.toInt ≤ l1_7.toInt := i_nlt (a := l1_7.toInt) (b := v_text_count.toInt) rfl rfl c50
          refine ok_X6_blame  (fun r59_0 r59_1 f9 f10 => ?_)
          exact hq r59_0 r59_1 l1_7 v_groups_c_loopable (by omega) (by omega) (by omega) (by omega) (by omega) (by omega) (by omega)
      refine ⟨fun c15 => ?_, fun c15 => ?_⟩
      · have f11 : v_text_count.toInt ≤ l1_7.toInt := i_le (a := v_text_count.toInt) (b := l1_7.toInt) rfl rfl c15
        exact j_37  (by omega)
      · have f12 : l1_7.toInt < v_text_count.toInt := i_nle (a := v_text_count.toInt) (b := l1_7.toInt) rfl rfl c15
        refine ok_X7_at (by omega) (by omega) (by omega) (fun r23 f13 => ?_)
        refine ⟨fun c28 => ?_, fun c28 => ?_⟩
        · have f14 : r23.toInt = 41 := i_eq (a := r23.toInt) (b := 41) rfl rfl c28
          exact j_37  (by omega)
        · have f15 : r23.toInt ≠ 41 := i_ne (a := r23.toInt) (b := 41) rfl rfl c28
          intro x31 ex31
          have f16 : x31.toInt = l1_7.toInt + 1 := i_add (a := l1_7.toInt) (b := 1) ex31 rfl rfl (by omega) (by omega)
          exact ih_7 x31  (by omega) (by omega) (by have h8_0 := i_rng l1_7; have h8_1 := i_rng x31; omega)
  exact ⟨((-1) * x5.toInt + 2147483648).toNat + 1, j_7   (((-1) * x5.toInt + 2147483648).toNat + 1) x5  (by omega) (by omega) (by omega)⟩
set_option maxHeartbeats 4000000 in
theorem ok_X6_closeGroup {v_fault : Int32} {v_faultPlace : Int32} {v_count : Int32} {v_depth : Int32} {v_at : Int32} {v_sort : Nat → Int32} {v_value : Nat → Int32} {v_low : Nat → Int32} {v_high : Nat → Int32} {v_firstPart : Nat → Int32} {v_nextPart : Nat → Int32} {v_groups : Nat → Option Nat} {v_groups_b_pending : Int32} {v_groups_b_loopable : Bool} {v_groups_b_rowFirst : Int32} {v_groups_b_rowLast : Int32} {v_groups_b_rowCount : Int32} {v_groups_b_choiceFirst : Int32} {v_groups_b_choiceLast : Int32} {v_groups_c_sort : Int32} {v_groups_c_value : Int32} {v_groups_c_name : Int32} {v_groups_c_pending : Int32} {v_groups_c_loopable : Bool} {v_groups_c_rowFirst : Int32} {v_groups_c_rowLast : Int32} {v_groups_c_rowCount : Int32} {v_groups_c_choiceFirst : Int32} {v_groups_c_choiceLast : Int32} {v_groups_c_choiceCount : Int32} {h8 : Nat} {h9 : Nat} {gb : Int} {gb0 : Int} {Q : Int32 → Int32 → Int32 → Int32 → Int32 → (Nat → Int32) → (Nat → Int32) → (Nat → Int32) → (Nat → Int32) → (Nat → Int32) → (Nat → Int32) → Int32 → Bool → Int32 → Int32 → Int32 → Int32 → Bool → Int32 → Int32 → Int32 → Int32 → Int32 → Int32 → Prop} (a0 : 0 ≤ v_count.toInt) (a1 : v_count.toInt ≤ 256) (a2 : 0 ≤ v_depth.toInt) (a3 : v_depth.toInt ≤ 9) (a4 : 0 ≤ v_at.toInt) (a5 : v_at.toInt ≤ 5000) (a6 : v_count.toInt ≤ 250) (b0 : rp (fun k v => v = -1 ∨ k < v) v_nextPart 0 v_count.toInt) (u0 : zrJ gb v_count.toInt v_groups_c_pending v_groups_c_rowFirst v_groups_c_rowLast v_groups_c_choiceFirst v_groups_c_choiceLast) (u1 : 1 ≤ v_depth.toInt → zrJ gb0 gb v_groups_b_pending v_groups_b_rowFirst v_groups_b_rowLast v_groups_b_choiceFirst v_groups_b_choiceLast) (v0 : ∀ i9 : Int32, i9.toInt = v_depth.toInt + (0) → 0 ≤ i9.toInt → i9.toInt ≤ 9 → v_groups i9.toNatClampNeg = some h9) (v1 : ∀ i9 : Int32, i9.toInt = v_depth.toInt + (-1) → 0 ≤ i9.toInt → i9.toInt ≤ 9 → v_groups i9.toNatClampNeg = some h8) (hq : ∀ (ov_fault : Int32) (ov_faultPlace : Int32) (ov_count : Int32) (ov_depth : Int32) (ov_at : Int32) (ov_sort : Nat → Int32) (ov_value : Nat → Int32) (ov_low : Nat → Int32) (ov_high : Nat → Int32) (ov_firstPart : Nat → Int32) (ov_nextPart : Nat → Int32) (ov_groups_b_pending : Int32) (ov_groups_b_loopable : Bool) (ov_groups_b_rowFirst : Int32) (ov_groups_b_rowLast : Int32) (ov_groups_b_rowCount : Int32) (ov_groups_c_pending : Int32) (ov_groups_c_loopable : Bool) (ov_groups_c_rowFirst : Int32) (ov_groups_c_rowLast : Int32) (ov_groups_c_rowCount : Int32) (ov_groups_c_choiceFirst : Int32) (ov_groups_c_choiceLast : Int32) (ov_groups_c_choiceCount : Int32), v_fault.toInt ≤ ov_fault.toInt → v_count.toInt ≤ ov_count.toInt → ov_depth.toInt ≤ v_depth.toInt → v_at.toInt ≤ ov_at.toInt → ov_count.toInt ≤ 255 → 0 ≤ ov_depth.toInt → ov_depth.toInt ≤ 8 → ov_at.toInt ≤ 5632 → ((ov_fault.toInt ≠ 0) ∨ (ov_count.toInt + 2 * ov_depth.toInt + v_at.toInt ≤ ov_at.toInt + v_count.toInt + 2 * v_depth.toInt)) → ov_count.toInt ≤ v_count.toInt + 3 → v_depth.toInt ≤ ov_depth.toInt + 1 → ((v_fault.toInt = 0) ∨ (ov_fault.toInt = v_fault.toInt)) → rp (fun k v => v = -1 ∨ k < v) ov_nextPart 0 v_count.toInt → rp (fun k v => v = -1 ∨ k < v) ov_nextPart 0 ov_count.toInt → ((ov_depth.toInt = v_depth.toInt ∧ zrJ gb ov_count.toInt ov_groups_c_pending ov_groups_c_rowFirst ov_groups_c_rowLast ov_groups_c_choiceFirst ov_groups_c_choiceLast ∧ (1 ≤ v_depth.toInt → zrJ gb0 gb ov_groups_b_pending ov_groups_b_rowFirst ov_groups_b_rowLast v_groups_b_choiceFirst v_groups_b_choiceLast)) ∨ (ov_depth.toInt = v_depth.toInt - 1 ∧ zrJ gb0 ov_count.toInt ov_groups_b_pending ov_groups_b_rowFirst ov_groups_b_rowLast v_groups_b_choiceFirst v_groups_b_choiceLast)) → Q ov_fault ov_faultPlace ov_count ov_depth ov_at ov_sort ov_value ov_low ov_high ov_firstPart ov_nextPart ov_groups_b_pending ov_groups_b_loopable ov_groups_b_rowFirst ov_groups_b_rowLast ov_groups_b_rowCount ov_groups_c_pending ov_groups_c_loopable ov_groups_c_rowFirst ov_groups_c_rowLast ov_groups_c_rowCount ov_groups_c_choiceFirst ov_groups_c_choiceLast ov_groups_c_choiceCount) : w_X6_closeGroup v_fault v_faultPlace v_count v_depth v_at v_sort v_value v_low v_high v_firstPart v_nextPart v_groups v_groups_b_pending v_groups_b_loopable v_groups_b_rowFirst v_groups_b_rowLast v_groups_b_rowCount v_groups_c_sort v_groups_c_value v_groups_c_name v_groups_c_pending v_groups_c_loopable v_groups_c_rowFirst v_groups_c_rowLast v_groups_c_rowCount v_groups_c_choiceFirst v_groups_c_choiceLast v_groups_c_choiceCount h8 h9 Q := by
  have q_t : (bz true).toInt = 1 := rfl
  have q_f : (bz false).toInt = 0 := rfl
  have q_0 : (0 : Int32).toInt = 0 := rfl
  have q_1 : (1 : Int32).toInt = 1 := rfl
  unfold w_X6_closeGroup
  refine ⟨fun c4 => ?_, fun c4 => ?_⟩
  · have f1 : v_depth.toInt ≠ 0 := i_ne (a := v_depth.toInt) (b := 0) rfl rfl c4
    refine ok_X6_openGroup (by omega) (by omega) (fun i9 e9 g9 l9 => v0 i9 (by omega) g9 l9) (fun r18 f2 => ?_)
    refine ⟨i_ne0 (by omega), ?_⟩
    refine ok_X6_closeRow (gb := gb) (by omega) (by omega) (by omega) (rp_mono b0 (by omega) (by omega)) (by exact u0) (fun r24_0 r24_1 r24_2 r24_3 r24_4 r24_5 r24_6 r24_7 r24_8 r24_9 r24_10 r24_11 r24_12 r24_13 r24_14 r24_15 r24_16 f3 f4 f5 f6 f7 f8 f9 f10 f11 f12 f13 f14 f15 h16 h17 u24_0 => ?_)
    refine ok_X6_choiceOf (a1_pending := r24_9) (a1_rowFirst := r24_11) (a1_rowLast := r24_12) (a1_choiceLast := r24_15) (gb := gb) (by omega) (by omega) (by omega) (rp_mono h16 (by omega) (by omega)) (by exact u24_0) (fun r29 r29_0 r29_1 r29_2 r29_3 r29_4 r29_5 r29_6 r29_7 r29_8 f18 f19 f20 f21 f22 f23 f24 h25 h26 u29_0 u29_1 => ?_)
    have j_60 : ∀ (l2_60 : Int32) (v_fault_60 : Int32) (v_faultPlace_60 : Int32) (v_count_60 : Int32) (v_sort_60 : Nat → Int32) (v_value_60 : Nat → Int32) (v_low_60 : Nat → Int32) (v_high_60 : Nat → Int32) (v_firstPart_60 : Nat → Int32) (v_nextPart_60 : Nat → Int32), v_fault_60.toInt = r29_0.toInt → v_faultPlace_60.toInt = r29_1.toInt → 0 ≤ v_count_60.toInt → v_count_60.toInt ≤ 256 → v_count.toInt ≤ v_count_60.toInt → v_count_60.toInt ≤ v_count.toInt + 3 → ((l2_60.toInt = r29.toInt ∧ v_count_60.toInt = r29_2.toInt ∧ v_groups_c_sort.toInt + 1 = 0) ∨ (l2_60.toInt = r29_2.toInt ∧ v_count_60.toInt = r29_2.toInt + 1)) → rp (fun k v => v = -1 ∨ k < v) v_nextPart_60 0 r29_2.toInt → rp (fun k v => v = -1 ∨ k < v) v_nextPart_60 0 v_count_60.toInt → rp (fun k v => v = -1 ∨ k < v) v_nextPart_60 0 r24_2.toInt → (l2_60.toInt = -1 ∨ gb ≤ l2_60.toInt) → (l2_60.toInt < v_count_60.toInt) → (gb ≤ v_count_60.toInt) → w_X6_closeGroup_60 v_groups h8 Q l2_60 v_fault_60 v_faultPlace_60 v_count_60 v_depth v_at v_sort_60 v_value_60 v_low_60 v_high_60 v_firstPart_60 v_nextPart_60 v_groups_b_pending v_groups_b_loopable v_groups_b_rowFirst v_groups_b_rowLast v_groups_b_rowCount r24_9 r24_10 r24_11 r24_12 r24_13 r24_14 r24_15 r24_16 := by
      intro l2_60 v_fault_60 v_faultPlace_60 v_count_60 v_sort_60 v_value_60 v_low_60 v_high_60 v_firstPart_60 v_nextPart_60 f27 f28 f29 f30 f31 f32 f33 h34 h35 h36 u60_0 u60_1 u60_2
      unfold w_X6_closeGroup_60
      intro x66 ex66
      have f37 : x66.toInt = v_depth.toInt - 1 := i_sub (a := v_depth.toInt) (b := 1) ex66 rfl rfl (by omega) (by omega)
      refine ok_X6_addOne (v_count := v_count_60) (v_groups_c_choiceFirst := v_groups_b_choiceFirst) (v_groups_c_choiceLast := v_groups_b_choiceLast) (gb := gb0) (by omega) (by omega) (by omega) (by omega) (rp_mono h35 (by omega) (by omega)) (by exact zrJ_w (u1 (by omega)) (by have h9 := u60_2; omega)) (by exact zrK_u (u1 (by omega)) u60_0 (by omega)) (fun i9 e9 g9 l9 => v1 i9 (by omega) g9 l9) (fun r200072_0 r200072_1 r200072_2 r200072_3 r200072_4 r200072_5 f38 f39 f40 h41 u200072_0 => ?_)
      intro x200081 ex200081
      have f42 : x200081.toInt = v_at.toInt + 1 := i_add (a := v_at.toInt) (b := 1) ex200081 rfl rfl (by omega) (by omega)
      exact hq v_fault_60 v_faultPlace_60 v_count_60 x66 x200081 v_sort_60 v_value_60 v_low_60 v_high_60 v_firstPart_60 r200072_0 r200072_1 r200072_2 r200072_3 r200072_4 r200072_5 r24_9 r24_10 r24_11 r24_12 r24_13 r24_14 r24_15 r24_16 (by omega) (by omega) (by omega) (by omega) (by omega) (by omega) (by omega) (by omega) (by omega) (by omega) (by omega) (by omega) (rp_mono h41 (by omega) (by omega)) (rp_mono h41 (by omega) (by omega)) (by exact Or.inr ⟨by omega, by assumption⟩)
    refine ⟨fun c38 => ?_, fun c38 => ?_⟩
    · have f43 : v_groups_c_sort.toInt = (-1) := i_eq (a := v_groups_c_sort.toInt) (b := (-1)) rfl rfl c38
      exact j_60 r29 r29_0 r29_1 r29_2 r29_3 r29_4 r29_5 r29_6 r29_7 r29_8 (by omega) (by omega) (by omega) (by omega) (by omega) (by omega) (by omega) (rp_mono h25 (by omega) (by omega)) (rp_mono h25 (by omega) (by omega)) (rp_mono h26 (by omega) (by omega)) (by first | exact u29_0 | (have h9 := zrJ_b u0; omega)) (by first | exact u29_1 | omega) (by have h9 := zrJ_b u0; omega)
    · have f44 : v_groups_c_sort.toInt ≠ (-1) := i_ne (a := v_groups_c_sort.toInt) (b := (-1)) rfl rfl c38
      refine ok_X6_makeRound (by omega) (by omega) (by omega) (rp_mono h25 (by omega) (by omega)) (fun r56 r56_0 r56_1 r56_2 r56_3 r56_4 r56_5 r56_6 r56_7 r56_8 f45 f46 f47 f48 h49 h50 h51 => ?_)
      exact j_60 r56 r56_0 r56_1 r56_2 r56_3 r56_4 r56_5 r56_6 r56_7 r56_8 (by omega) (by omega) (by omega) (by omega) (by omega) (by omega) (by omega) (rp_mono h51 (by omega) (by omega)) (rp_mono h51 (by omega) (by omega)) (rp_mono h51 (by omega) (by omega)) (by first | exact u29_0 | (have h9 := zrJ_b u0; omega)) (by first | exact u29_1 | omega) (by have h9 := zrJ_b u0; omega)
  · have f52 : v_depth.toInt = 0 := i_eq (a := v_depth.toInt) (b := 0) rfl rfl c4
    refine ok_X6_blame  (fun r13_0 r13_1 f53 f54 => ?_)
    exact hq r13_0 r13_1 v_count v_depth v_at v_sort v_value v_low v_high v_firstPart v_nextPart v_groups_b_pending v_groups_b_loopable v_groups_b_rowFirst v_groups_b_rowLast v_groups_b_rowCount v_groups_c_pending v_groups_c_loopable v_groups_c_rowFirst v_groups_c_rowLast v_groups_c_rowCount v_groups_c_choiceFirst v_groups_c_choiceLast v_groups_c_choiceCount (by omega) (by omega) (by omega) (by omega) (by omega) (by omega) (by omega) (by omega) (by omega) (by omega) (by omega) (by omega) (rp_mono b0 (by omega) (by omega)) (rp_mono b0 (by omega) (by omega)) (by exact Or.inl ⟨rfl, u0, u1⟩)
set_option maxHeartbeats 4000000 in
theorem ok_X6_readLoop {p1 : Int32} {v_text_count : Int32} {v_text_items : Nat → Int32} {nv_text_items : Nat} {v_fault : Int32} {v_faultPlace : Int32} {v_count : Int32} {v_depth : Int32} {v_at : Int32} {v_items : Int32} {v_sort : Nat → Int32} {v_value : Nat → Int32} {v_low : Nat → Int32} {v_high : Nat → Int32} {v_firstPart : Nat → Int32} {v_nextPart : Nat → Int32} {v_groups : Nat → Option Nat} {v_groups_c_pending : Int32} {v_groups_c_loopable : Bool} {v_groups_c_rowFirst : Int32} {v_groups_c_rowLast : Int32} {v_groups_c_choiceFirst : Int32} {v_groups_c_choiceLast : Int32} {h10 : Nat} {gb : Int} {Q : Int32 → Int32 → Int32 → Int32 → Int32 → (Nat → Int32) → (Nat → Int32) → (Nat → Int32) → (Nat → Int32) → (Nat → Int32) → (Nat → Int32) → Int32 → Bool → Prop} (a0 : 0 ≤ v_text_count.toInt) (a1 : v_text_count.toInt ≤ (nv_text_items : Int)) (a2 : (nv_text_items : Int) ≤ 1000) (a3 : 0 ≤ v_count.toInt) (a4 : v_count.toInt ≤ 256) (a5 : 0 ≤ v_depth.toInt) (a6 : v_depth.toInt ≤ 9) (a7 : 0 ≤ v_at.toInt) (a8 : v_at.toInt ≤ 2000) (a9 : v_count.toInt ≤ 255) (b0 : rp (fun k v => v = -1 ∨ k < v) v_nextPart 0 v_count.toInt) (u0 : zrJ gb v_count.toInt v_groups_c_pending v_groups_c_rowFirst v_groups_c_rowLast v_groups_c_choiceFirst v_groups_c_choiceLast) (v0 : ∀ i9 : Int32, i9.toInt = v_depth.toInt + (0) → 0 ≤ i9.toInt → i9.toInt ≤ 9 → v_groups i9.toNatClampNeg = some h10) (hq : ∀ (ov_fault : Int32) (ov_faultPlace : Int32) (ov_count : Int32) (ov_at : Int32) (ov_items : Int32) (ov_sort : Nat → Int32) (ov_value : Nat → Int32) (ov_low : Nat → Int32) (ov_high : Nat → Int32) (ov_firstPart : Nat → Int32) (ov_nextPart : Nat → Int32) (ov_groups_c_pending : Int32) (ov_groups_c_loopable : Bool), v_fault.toInt ≤ ov_fault.toInt → v_count.toInt ≤ ov_count.toInt → v_at.toInt ≤ ov_at.toInt → ov_count.toInt ≤ 256 → ov_at.toInt ≤ 2519 → ((ov_fault.toInt ≠ 0) ∨ (ov_count.toInt + v_at.toInt ≤ ov_at.toInt + v_count.toInt)) → ov_count.toInt ≤ v_count.toInt + 1 → ((v_fault.toInt = 0) ∨ (ov_fault.toInt = v_fault.toInt)) → rp (fun k v => v = -1 ∨ k < v) ov_nextPart 0 v_count.toInt → rp (fun k v => v = -1 ∨ k < v) ov_nextPart 0 ov_count.toInt → (zrJ gb ov_count.toInt ov_groups_c_pending v_groups_c_rowFirst v_groups_c_rowLast v_groups_c_choiceFirst v_groups_c_choiceLast) → Q ov_fault ov_faultPlace ov_count ov_at ov_items ov_sort ov_value ov_low ov_high ov_firstPart ov_nextPart ov_groups_c_pending ov_groups_c_loopable) : w_X6_readLoop p1 v_text_count v_text_items nv_text_items v_fault v_faultPlace v_count v_depth v_at v_items v_sort v_value v_low v_high v_firstPart v_nextPart v_groups v_groups_c_pending v_groups_c_loopable h10 Q := by
  have q_t : (bz true).toInt = 1 := rfl
  have q_f : (bz false).toInt = 0 := rfl
  have q_m1 : ((-1) : Int32).toInt = (-1) := rfl
  have q_0 : (0 : Int32).toInt = 0 := rfl
  have q_1 : (1 : Int32).toInt = 1 := rfl
  have q_2 : (2 : Int32).toInt = 2 := rfl
  have q_7 : (7 : Int32).toInt = 7 := rfl
  unfold w_X6_readLoop
  refine ok_X6_openGroup (by omega) (by omega) (fun i9 e9 g9 l9 => v0 i9 (by omega) g9 l9) (fun r1 f1 => ?_)
  refine ⟨i_ne0 (by omega), ?_⟩
  have f2 : (0 ≤ (bz v_groups_c_loopable).toInt ∧ (bz v_groups_c_loopable).toInt ≤ 1) := i_bzr v_groups_c_loopable
  have j_21 : ∀ (v_fault_21 : Int32) (v_faultPlace_21 : Int32), v_fault.toInt ≤ v_fault_21.toInt → ((v_fault.toInt = 0) ∨ (v_fault_21.toInt = v_fault.toInt)) → ((v_fault_21.toInt = v_fault.toInt ∧ v_faultPlace_21.toInt = v_faultPlace.toInt) ∨ ((bz v_groups_c_loopable).toInt = 0)) → w_X6_readLoop_21 p1 v_text_count v_text_items nv_text_items Q v_fault_21 v_faultPlace_21 v_count v_at v_items v_sort v_value v_low v_high v_firstPart v_nextPart v_groups_c_pending v_groups_c_loopable := by
    intro v_fault_21 v_faultPlace_21 f3 f4 f5
    unfold w_X6_readLoop_21
    refine ok_X6_countItem  (fun r22 r22_0 r22_1 r22_2 f6 f7 f8 f9 f10 => ?_)
    refine ⟨fun c25 => ?_, fun c25 => ?_⟩
    · have f11 : r22.toInt ≠ 0 := i_ne (a := r22.toInt) (b := 0) rfl rfl c25
      intro x35 ex35
      have f12 : x35.toInt = v_at.toInt + 1 := i_add (a := v_at.toInt) (b := 1) ex35 rfl rfl (by omega) (by omega)
      have j_50 : ∀ (s0_50 : Int32), ((s0_50.toInt = 0) ∨ (s0_50.toInt = 1 ∧ p1.toInt = 43)) → w_X6_readLoop_50 p1 v_text_count v_text_items nv_text_items Q s0_50 r22_0 r22_1 v_count x35 r22_2 v_sort v_value v_low v_high v_firstPart v_nextPart v_groups_c_pending v_groups_c_loopable := by
        intro s0_50 f13
        unfold w_X6_readLoop_50
        have j_62 : ∀ (s0_62 : Int32), ((s0_62.toInt + 1 = 0) ∨ (s0_62.toInt = 1 ∧ p1.toInt = 63)) → w_X6_readLoop_62 p1 v_text_count v_text_items nv_text_items Q s0_62 s0_50 r22_0 r22_1 v_count x35 r22_2 v_sort v_value v_low v_high v_firstPart v_nextPart v_groups_c_pending v_groups_c_loopable := by
          intro s0_62 f14
          unfold w_X6_readLoop_62
          have j_83 : ∀ (l3_83 : Int32) (l4_83 : Int32) (v_fault_83 : Int32) (v_faultPlace_83 : Int32) (v_at_83 : Int32), v_fault.toInt ≤ v_fault_83.toInt → v_at.toInt ≤ v_at_83.toInt → v_at.toInt + 1 ≤ v_at_83.toInt → ((l3_83.toInt = s0_50.toInt ∧ l4_83.toInt = s0_62.toInt ∧ v_fault_83.toInt = r22_0.toInt ∧ v_faultPlace_83.toInt = r22_1.toInt ∧ v_at_83.toInt = x35.toInt) ∨ (p1.toInt = 123 ∧ v_at_83.toInt ≤ 5801)) → v_at_83.toInt ≤ 2100 → w_X6_readLoop_83 v_text_count v_text_items nv_text_items Q l3_83 l4_83 v_fault_83 v_faultPlace_83 v_count v_at_83 r22_2 v_sort v_value v_low v_high v_firstPart v_nextPart v_groups_c_pending v_groups_c_loopable := by
            intro l3_83 l4_83 v_fault_83 v_faultPlace_83 v_at_83 f15 f16 f17 f18 f19
            unfold w_X6_readLoop_83
            refine ⟨fun c87 => ?_, fun c87 => ?_⟩
            · have f20 : v_fault_83.toInt = 0 := i_eq (a := v_fault_83.toInt) (b := 0) rfl rfl c87
              refine ok_X6_here (by omega) (by omega) (by omega) (fun r92 f21 => ?_)
              have j_118 : ∀ (s0_118 : Int32), ((s0_118.toInt = 0) ∨ (s0_118.toInt = 2) ∨ (s0_118.toInt = 1 ∧ r92.toInt = 63)) → w_X6_readLoop_118 Q s0_118 l3_83 l4_83 v_fault_83 v_faultPlace_83 v_count v_at_83 r22_2 v_sort v_value v_low v_high v_firstPart v_nextPart v_groups_c_pending v_groups_c_loopable := by
                intro s0_118 f22
                unfold w_X6_readLoop_118
                have j_135 : ∀ (s0_135 : Int32), ((s0_135.toInt = 0 ∧ s0_118.toInt = 0) ∨ (s0_135.toInt = 1)) → w_X6_readLoop_135 Q s0_135 v_at_83 l3_83 l4_83 s0_118 v_fault_83 v_faultPlace_83 v_count v_at_83 r22_2 v_sort v_value v_low v_high v_firstPart v_nextPart v_groups_c_pending v_groups_c_loopable := by
                  intro s0_135 f23
                  unfold w_X6_readLoop_135
                  intro x135 ex135
                  have f24 : x135.toInt = v_at_83.toInt + s0_135.toInt := i_add (a := v_at_83.toInt) (b := s0_135.toInt) ex135 rfl rfl (by omega) (by omega)
                  refine ok_X6_makeRound (by omega) (by omega) (by omega) (rp_mono b0 (by omega) (by omega)) (fun r152 r152_0 r152_1 r152_2 r152_3 r152_4 r152_5 r152_6 r152_7 r152_8 f25 f26 f27 f28 h29 h30 h31 => ?_)
                  exact hq r152_0 r152_1 r152_2 x135 r22_2 r152_3 r152_4 r152_5 r152_6 r152_7 r152_8 r152 false (by omega) (by omega) (by omega) (by omega) (by omega) (by omega) (by omega) (by omega) (rp_mono h31 (by omega) (by omega)) (rp_mono h31 (by omega) (by omega)) (by exact zrJ_l u0 (by omega) (by omega))
                refine ⟨fun c127 => ?_, fun c127 => ?_⟩
                · have f32 : s0_118.toInt = 0 := i_eq (a := s0_118.toInt) (b := 0) rfl rfl c127
                  exact j_135 0 (by omega)
                · have f33 : s0_118.toInt ≠ 0 := i_ne (a := s0_118.toInt) (b := 0) rfl rfl c127
                  exact j_135 1 (by omega)
              refine ⟨fun c97 => ?_, fun c97 => ?_⟩
              · have f34 : r92.toInt ≠ 63 := i_ne (a := r92.toInt) (b := 63) rfl rfl c97
                refine ok_X6_here (by omega) (by omega) (by omega) (fun r105 f35 => ?_)
                refine ⟨fun c110 => ?_, fun c110 => ?_⟩
                · have f36 : r105.toInt ≠ 43 := i_ne (a := r105.toInt) (b := 43) rfl rfl c110
                  exact j_118 0 (by omega)
                · have f37 : r105.toInt = 43 := i_eq (a := r105.toInt) (b := 43) rfl rfl c110
                  exact j_118 2 (by omega)
              · have f38 : r92.toInt = 63 := i_eq (a := r92.toInt) (b := 63) rfl rfl c97
                exact j_118 1 (by omega)
            · have f39 : v_fault_83.toInt ≠ 0 := i_ne (a := v_fault_83.toInt) (b := 0) rfl rfl c87
              exact hq v_fault_83 v_faultPlace_83 v_count v_at_83 r22_2 v_sort v_value v_low v_high v_firstPart v_nextPart v_groups_c_pending v_groups_c_loopable (by omega) (by omega) (by omega) (by omega) (by omega) (by omega) (by omega) (by omega) (rp_mono b0 (by omega) (by omega)) (rp_mono b0 (by omega) (by omega)) (by exact u0)
          refine ⟨fun c67 => ?_, fun c67 => ?_⟩
          · have f40 : p1.toInt ≠ 123 := i_ne (a := p1.toInt) (b := 123) rfl rfl c67
            exact j_83 s0_50 s0_62 r22_0 r22_1 x35 (by omega) (by omega) (by omega) (by omega) (by omega)
          · have f41 : p1.toInt = 123 := i_eq (a := p1.toInt) (b := 123) rfl rfl c67
            refine ok_X6_readNumber (by omega) (by omega) (by omega) (by omega) (by omega) (fun r72 r72_0 r72_1 r72_2 f42 f43 f44 f45 => ?_)
            refine ok_X6_readMost (by omega) (by omega) (by omega) (by omega) (by omega) (fun r78 r78_0 r78_1 r78_2 f46 f47 f48 f49 f50 f51 => ?_)
            exact j_83 r72 r78 r78_0 r78_1 r78_2 (by omega) (by omega) (by omega) (by omega) (by omega)
        refine ⟨fun c54 => ?_, fun c54 => ?_⟩
        · have f52 : p1.toInt ≠ 63 := i_ne (a := p1.toInt) (b := 63) rfl rfl c54
          exact j_62 (-1) (by omega)
        · have f53 : p1.toInt = 63 := i_eq (a := p1.toInt) (b := 63) rfl rfl c54
          exact j_62 1 (by omega)
      refine ⟨fun c42 => ?_, fun c42 => ?_⟩
      · have f54 : p1.toInt ≠ 43 := i_ne (a := p1.toInt) (b := 43) rfl rfl c42
        exact j_50 0 (by omega)
      · have f55 : p1.toInt = 43 := i_eq (a := p1.toInt) (b := 43) rfl rfl c42
        exact j_50 1 (by omega)
    · have f56 : r22.toInt = 0 := i_eq (a := r22.toInt) (b := 0) rfl rfl c25
      exact hq r22_0 r22_1 v_count v_at r22_2 v_sort v_value v_low v_high v_firstPart v_nextPart v_groups_c_pending v_groups_c_loopable (by omega) (by omega) (by omega) (by omega) (by omega) (by omega) (by omega) (by omega) (rp_mono b0 (by omega) (by omega)) (rp_mono b0 (by omega) (by omega)) (by exact u0)
  refine ⟨fun c9 => ?_, fun c9 => ?_⟩
  · have f57 : (bz v_groups_c_loopable).toInt ≠ 0 := i_ne (a := (bz v_groups_c_loopable).toInt) (b := 0) rfl rfl c9
    exact j_21 v_fault v_faultPlace (by omega) (by omega) (by omega)
  · have f58 : (bz v_groups_c_loopable).toInt = 0 := i_eq (a := (bz v_groups_c_loopable).toInt) (b := 0) rfl rfl c9
    refine ok_X6_blame  (fun r18_0 r18_1 f59 f60 => ?_)
    exact j_21 r18_0 r18_1 (by omega) (by omega) (by omega)
set_option maxHeartbeats 4000000 in
theorem ok_X6_readSet {v_text_count : Int32} {v_text_items : Nat → Int32} {nv_text_items : Nat} {v_fault : Int32} {v_faultPlace : Int32} {v_count : Int32} {v_depth : Int32} {v_at : Int32} {v_items : Int32} {v_partCount : Int32} {v_sort : Nat → Int32} {v_value : Nat → Int32} {v_low : Nat → Int32} {v_high : Nat → Int32} {v_firstPart : Nat → Int32} {v_nextPart : Nat → Int32} {v_groups : Nat → Option Nat} {v_tree_ranges : Int32} {v_tree_rangeBegin : Nat → Int32} {v_tree_rangeEnd : Nat → Int32} {v_partBegin : Nat → Int32} {v_partEnd : Nat → Int32} {v_groups_c_pending : Int32} {v_groups_c_loopable : Bool} {v_groups_c_rowFirst : Int32} {v_groups_c_rowLast : Int32} {v_groups_c_rowCount : Int32} {v_groups_c_choiceFirst : Int32} {v_groups_c_choiceLast : Int32} {h15 : Nat} {gb : Int} {Q : Int32 → Int32 → Int32 → Int32 → Int32 → Int32 → (Nat → Int32) → (Nat → Int32) → (Nat → Int32) → (Nat → Int32) → (Nat → Int32) → (Nat → Int32) → Int32 → (Nat → Int32) → (Nat → Int32) → (Nat → Int32) → (Nat → Int32) → Int32 → Bool → Int32 → Int32 → Int32 → Prop} (a0 : 0 ≤ v_text_count.toInt) (a1 : v_text_count.toInt ≤ (nv_text_items : Int)) (a2 : (nv_text_items : Int) ≤ 1000) (a3 : 0 ≤ v_count.toInt) (a4 : v_count.toInt ≤ 256) (a5 : 0 ≤ v_partCount.toInt) (a6 : v_partCount.toInt ≤ 200) (a7 : 0 ≤ v_tree_ranges.toInt) (a8 : v_tree_ranges.toInt ≤ 512) (a9 : 0 ≤ v_depth.toInt) (a10 : v_depth.toInt ≤ 9) (a11 : 0 ≤ v_at.toInt) (a12 : v_at.toInt ≤ 2000) (a13 : v_count.toInt ≤ 255) (b0 : rp (fun k v => v = -1 ∨ k < v) v_nextPart 0 v_count.toInt) (u0 : zrJ gb v_count.toInt v_groups_c_pending v_groups_c_rowFirst v_groups_c_rowLast v_groups_c_choiceFirst v_groups_c_choiceLast) (v0 : ∀ i9 : Int32, i9.toInt = v_depth.toInt + (0) → 0 ≤ i9.toInt → i9.toInt ≤ 9 → v_groups i9.toNatClampNeg = some h15) (hq : ∀ (ov_fault : Int32) (ov_faultPlace : Int32) (ov_count : Int32) (ov_at : Int32) (ov_items : Int32) (ov_partCount : Int32) (ov_sort : Nat → Int32) (ov_value : Nat → Int32) (ov_low : Nat → Int32) (ov_high : Nat → Int32) (ov_firstPart : Nat → Int32) (ov_nextPart : Nat → Int32) (ov_tree_ranges : Int32) (ov_tree_rangeBegin : Nat → Int32) (ov_tree_rangeEnd : Nat → Int32) (ov_partBegin : Nat → Int32) (ov_partEnd : Nat → Int32) (ov_groups_c_pending : Int32) (ov_groups_c_loopable : Bool) (ov_groups_c_rowFirst : Int32) (ov_groups_c_rowLast : Int32) (ov_groups_c_rowCount : Int32), ((v_fault.toInt = 0) ∨ (ov_fault.toInt = v_fault.toInt)) → v_count.toInt ≤ ov_count.toInt → v_at.toInt ≤ ov_at.toInt → v_tree_ranges.toInt ≤ ov_tree_ranges.toInt → ov_count.toInt ≤ 256 → ov_at.toInt ≤ 5632 → 0 ≤ ov_partCount.toInt → ov_partCount.toInt ≤ 200 → ov_tree_ranges.toInt ≤ 512 → ((ov_fault.toInt ≠ 0) ∨ (ov_count.toInt + v_at.toInt ≤ ov_at.toInt + v_count.toInt)) → ov_count.toInt ≤ v_count.toInt + 1 → rp (fun k v => v = -1 ∨ k < v) ov_nextPart 0 v_count.toInt → rp (fun k v => v = -1 ∨ k < v) ov_nextPart 0 ov_count.toInt → (zrJ gb ov_count.toInt ov_groups_c_pending ov_groups_c_rowFirst ov_groups_c_rowLast v_groups_c_choiceFirst v_groups_c_choiceLast) → Q ov_fault ov_faultPlace ov_count ov_at ov_items ov_partCount ov_sort ov_value ov_low ov_high ov_firstPart ov_nextPart ov_tree_ranges ov_tree_rangeBegin ov_tree_rangeEnd ov_partBegin ov_partEnd ov_groups_c_pending ov_groups_c_loopable ov_groups_c_rowFirst ov_groups_c_rowLast ov_groups_c_rowCount) : w_X6_readSet v_text_count v_text_items nv_text_items v_fault v_faultPlace v_count v_depth v_at v_items v_partCount v_sort v_value v_low v_high v_firstPart v_nextPart v_groups v_tree_ranges v_tree_rangeBegin v_tree_rangeEnd v_partBegin v_partEnd v_groups_c_pending v_groups_c_loopable v_groups_c_rowFirst v_groups_c_rowLast v_groups_c_rowCount h15 Q := by
  have q_t : (bz true).toInt = 1 := rfl
  have q_f : (bz false).toInt = 0 := rfl
  have q_0 : (0 : Int32).toInt = 0 := rfl
  have q_1 : (1 : Int32).toInt = 1 := rfl
  unfold w_X6_readSet
  refine ok_X6_countItem  (fun r1 r1_0 r1_1 r1_2 f1 f2 f3 f4 f5 => ?_)
  refine ⟨fun c4 => ?_, fun c4 => ?_⟩
  · have f6 : r1.toInt ≠ 0 := i_ne (a := r1.toInt) (b := 0) rfl rfl c4
    intro x14 ex14
    have f7 : x14.toInt = v_at.toInt + 1 := i_add (a := v_at.toInt) (b := 1) ex14 rfl rfl (by omega) (by omega)
    refine ok_X6_here (by omega) (by omega) (by omega) (fun r19 f8 => ?_)
    have j_32 : ∀ (s0_32 : Int32), ((s0_32.toInt = 0) ∨ (s0_32.toInt = 1 ∧ r19.toInt = 94)) → w_X6_readSet_32 v_text_count v_text_items nv_text_items v_depth v_groups h15 Q s0_32 r1_0 r1_1 v_count x14 r1_2 v_partCount v_sort v_value v_low v_high v_firstPart v_nextPart v_tree_ranges v_tree_rangeBegin v_tree_rangeEnd v_partBegin v_partEnd v_groups_c_pending v_groups_c_loopable v_groups_c_rowFirst v_groups_c_rowLast v_groups_c_rowCount := by
      intro s0_32 f9
      unfold w_X6_readSet_32
      have j_47 : ∀ (s0_47 : Int32), ((s0_47.toInt = 0 ∧ s0_32.toInt = 0) ∨ (s0_47.toInt = 1)) → w_X6_readSet_47 v_text_count v_text_items nv_text_items v_depth v_groups h15 Q s0_47 x14 s0_32 r1_0 r1_1 v_count x14 r1_2 v_partCount v_sort v_value v_low v_high v_firstPart v_nextPart v_tree_ranges v_tree_rangeBegin v_tree_rangeEnd v_partBegin v_partEnd v_groups_c_pending v_groups_c_loopable v_groups_c_rowFirst v_groups_c_rowLast v_groups_c_rowCount := by
        intro s0_47 f10
        unfold w_X6_readSet_47
        intro x47 ex47
        have f11 : x47.toInt = x14.toInt + s0_47.toInt := i_add (a := x14.toInt) (b := s0_47.toInt) ex47 rfl rfl (by omega) (by omega)
        refine ok_X6_readPart (by omega) (by omega) (by omega) (by omega) (by omega) (by omega) (by omega) (fun r57_0 r57_1 r57_2 r57_3 r57_4 r57_5 f12 f13 f14 f15 f16 f17 f18 => ?_)
        have j_62 : ∀ n_62 : Nat, ∀ (l2_62 : Int32) (v_fault_62 : Int32) (v_faultPlace_62 : Int32) (v_at_62 : Int32) (v_partCount_62 : Int32) (v_partBegin_62 : Nat → Int32) (v_partEnd_62 : Nat → Int32), 0 ≤ l2_62.toInt → l2_62.toInt ≤ 200 → v_at.toInt + 1 ≤ v_at_62.toInt → v_at_62.toInt ≤ 13 * l2_62.toInt + v_at.toInt + 20 → 0 ≤ v_partCount_62.toInt → v_partCount_62.toInt ≤ 200 → ((-1) * l2_62.toInt + 200).toNat < n_62 → w_X6_readSet_62 v_text_count v_text_items nv_text_items v_depth v_groups h15 Q s0_32 v_count r1_2 v_sort v_value v_low v_high v_firstPart v_nextPart v_tree_ranges v_tree_rangeBegin v_tree_rangeEnd v_groups_c_pending v_groups_c_loopable v_groups_c_rowFirst v_groups_c_rowLast v_groups_c_rowCount n_62 l2_62 v_fault_62 v_faultPlace_62 v_at_62 v_partCount_62 v_partBegin_62 v_partEnd_62 := by
          intro n_62
          induction n_62 with
          | zero =>
            intro l2_62 v_fault_62 v_faultPlace_62 v_at_62 v_partCount_62 v_partBegin_62 v_partEnd_62 f19 f20 f21 f22 f23 f24 hm_62
            exfalso; omega
          | succ n_62 ih_62 =>
            intro l2_62 v_fault_62 v_faultPlace_62 v_at_62 v_partCount_62 v_partBegin_62 v_partEnd_62 f19 f20 f21 f22 f23 f24 hm_62
            unfold w_X6_readSet_62
            unfold w_X6_readSet_62B
            have j_95 : ((200 ≤ l2_62.toInt) ∨ (l2_62.toInt ≤ 199) ∨ (l2_62.toInt ≤ 199 ∧ v_fault_62.toInt = 0)) → w_X6_readSet_95 v_depth v_groups h15 Q s0_32 v_fault_62 v_faultPlace_62 v_count v_at_62 r1_2 v_partCount_62 v_sort v_value v_low v_high v_firstPart v_nextPart v_tree_ranges v_tree_rangeBegin v_tree_rangeEnd v_partBegin_62 v_partEnd_62 v_groups_c_pending v_groups_c_loopable v_groups_c_rowFirst v_groups_c_rowLast v_groups_c_rowCount := by
              intro f25
              unfold w_X6_readSet_95
              have j_121 : ∀ (v_fault_121 : Int32) (v_faultPlace_121 : Int32) (v_count_121 : Int32) (v_at_121 : Int32) (v_sort_121 : Nat → Int32) (v_value_121 : Nat → Int32) (v_low_121 : Nat → Int32) (v_high_121 : Nat → Int32) (v_firstPart_121 : Nat → Int32) (v_nextPart_121 : Nat → Int32) (v_tree_ranges_121 : Int32) (v_tree_rangeBegin_121 : Nat → Int32) (v_tree_rangeEnd_121 : Nat → Int32) (v_groups_c_pending_121 : Int32) (v_groups_c_loopable_121 : Bool) (v_groups_c_rowFirst_121 : Int32) (v_groups_c_rowLast_121 : Int32) (v_groups_c_rowCount_121 : Int32), v_fault_121.toInt = v_fault_62.toInt → 0 ≤ v_count_121.toInt → v_count_121.toInt ≤ 256 → 0 ≤ v_tree_ranges_121.toInt → v_tree_ranges_121.toInt ≤ 512 → v_count.toInt ≤ v_count_121.toInt → v_at.toInt ≤ v_at_121.toInt → v_tree_ranges.toInt ≤ v_tree_ranges_121.toInt → ((v_fault_121.toInt ≠ 0) ∨ (v_at.toInt + v_count_121.toInt ≤ v_at_121.toInt + v_count.toInt)) → v_count_121.toInt ≤ v_count.toInt + 1 → v_at.toInt + v_count_121.toInt ≤ v_at_121.toInt + v_count.toInt → 1 ≤ v_at_121.toInt → v_at_121.toInt ≤ 5632 → rp (fun k v => v = -1 ∨ k < v) v_nextPart_121 0 v_count.toInt → rp (fun k v => v = -1 ∨ k < v) v_nextPart_121 0 v_count_121.toInt → (zrJ gb v_count_121.toInt v_groups_c_pending_121 v_groups_c_rowFirst_121 v_groups_c_rowLast_121 v_groups_c_choiceFirst v_groups_c_choiceLast) → w_X6_readSet_121 Q v_fault_121 v_faultPlace_121 v_count_121 v_at_121 r1_2 v_partCount_62 v_sort_121 v_value_121 v_low_121 v_high_121 v_firstPart_121 v_nextPart_121 v_tree_ranges_121 v_tree_rangeBegin_121 v_tree_rangeEnd_121 v_partBegin_62 v_partEnd_62 v_groups_c_pending_121 v_groups_c_loopable_121 v_groups_c_rowFirst_121 v_groups_c_rowLast_121 v_groups_c_rowCount_121 := by
                intro v_fault_121 v_faultPlace_121 v_count_121 v_at_121 v_sort_121 v_value_121 v_low_121 v_high_121 v_firstPart_121 v_nextPart_121 v_tree_ranges_121 v_tree_rangeBegin_121 v_tree_rangeEnd_121 v_groups_c_pending_121 v_groups_c_loopable_121 v_groups_c_rowFirst_121 v_groups_c_rowLast_121 v_groups_c_rowCount_121 f26 f27 f28 f29 f30 f31 f32 f33 f34 f35 f36 f37 f38 h39 h40 u121_0
                unfold w_X6_readSet_121
                exact hq v_fault_121 v_faultPlace_121 v_count_121 v_at_121 r1_2 v_partCount_62 v_sort_121 v_value_121 v_low_121 v_high_121 v_firstPart_121 v_nextPart_121 v_tree_ranges_121 v_tree_rangeBegin_121 v_tree_rangeEnd_121 v_partBegin_62 v_partEnd_62 v_groups_c_pending_121 v_groups_c_loopable_121 v_groups_c_rowFirst_121 v_groups_c_rowLast_121 v_groups_c_rowCount_121 (by omega) (by omega) (by omega) (by omega) (by omega) (by omega) (by omega) (by omega) (by omega) (by omega) (by omega) (rp_mono h40 (by omega) (by omega)) (rp_mono h40 (by omega) (by omega)) (by assumption)
              refine ⟨fun c99 => ?_, fun c99 => ?_⟩
              · have f41 : v_fault_62.toInt ≠ 0 := i_ne (a := v_fault_62.toInt) (b := 0) rfl rfl c99
                exact j_121 v_fault_62 v_faultPlace_62 v_count v_at_62 v_sort v_value v_low v_high v_firstPart v_nextPart v_tree_ranges v_tree_rangeBegin v_tree_rangeEnd v_groups_c_pending v_groups_c_loopable v_groups_c_rowFirst v_groups_c_rowLast v_groups_c_rowCount (by omega) (by omega) (by omega) (by omega) (by omega) (by omega) (by omega) (by omega) (by omega) (by omega) (by omega) (by omega) (by omega) (rp_mono b0 (by omega) (by omega)) (rp_mono b0 (by omega) (by omega)) (by assumption)
              · have f42 : v_fault_62.toInt = 0 := i_eq (a := v_fault_62.toInt) (b := 0) rfl rfl c99
                refine ok_X6_makeSet (by omega) (by omega) (by omega) (by omega) (by omega) (by omega) (by omega) (by omega) (by omega) (rp_mono b0 (by omega) (by omega)) (fun r105 r105_0 r105_1 r105_2 r105_3 r105_4 r105_5 r105_6 r105_7 r105_8 r105_9 r105_10 r105_11 f43 f44 f45 f46 f47 f48 f49 f50 h51 h52 h53 => ?_)
                refine ok_X6_addOne (v_count := r105_2) (v_groups_c_choiceFirst := v_groups_c_choiceFirst) (v_groups_c_choiceLast := v_groups_c_choiceLast) (gb := gb) (by omega) (by omega) (by omega) (by omega) (rp_mono h53 (by omega) (by omega)) (by exact zrJ_w u0 (by omega)) (by exact zrK_n u0 (by omega) (by omega)) (fun i9 e9 g9 l9 => v0 i9 (by omega) g9 l9) (fun r108_0 r108_1 r108_2 r108_3 r108_4 r108_5 f54 f55 f56 h57 u108_0 => ?_)
                intro x117 ex117
                have f58 : x117.toInt = v_at_62.toInt + 1 := i_add (a := v_at_62.toInt) (b := 1) ex117 rfl rfl (by omega) (by omega)
                exact j_121 r105_0 r105_1 r105_2 x117 r105_3 r105_4 r105_5 r105_6 r105_7 r108_0 r105_9 r105_10 r105_11 r108_1 r108_2 r108_3 r108_4 r108_5 (by omega) (by omega) (by omega) (by omega) (by omega) (by omega) (by omega) (by omega) (by omega) (by omega) (by omega) (by omega) (by omega) (rp_mono h57 (by omega) (by omega)) (rp_mono h57 (by omega) (by omega)) (by assumption)
            refine ⟨fun c66 => ?_, fun c66 => ?_⟩
            · have f59 : 200 ≤ l2_62.toInt := i_le (a := 200) (b := l2_62.toInt) rfl rfl c66
              exact j_95  (by omega)
            · have f60 : l2_62.toInt < 200 := i_nle (a := 200) (b := l2_62.toInt) rfl rfl c66
              refine ⟨fun c73 => ?_, fun c73 => ?_⟩
              · have f61 : v_fault_62.toInt ≠ 0 := i_ne (a := v_fault_62.toInt) (b := 0) rfl rfl c73
                exact j_95  (by omega)
              · have f62 : v_fault_62.toInt = 0 := i_eq (a := v_fault_62.toInt) (b := 0) rfl rfl c73
                refine ok_X6_here (by omega) (by omega) (by omega) (fun r77 f63 => ?_)
                refine ⟨fun c82 => ?_, fun c82 => ?_⟩
                · have f64 : r77.toInt = 93 := i_eq (a := r77.toInt) (b := 93) rfl rfl c82
                  exact j_95  (by omega)
                · have f65 : r77.toInt ≠ 93 := i_ne (a := r77.toInt) (b := 93) rfl rfl c82
                  refine ok_X6_readPart (by omega) (by omega) (by omega) (by omega) (by omega) (by omega) (by omega) (fun r86_0 r86_1 r86_2 r86_3 r86_4 r86_5 f66 f67 f68 f69 f70 f71 f72 => ?_)
                  intro x89 ex89
                  have f73 : x89.toInt = l2_62.toInt + 1 := i_add (a := l2_62.toInt) (b := 1) ex89 rfl rfl (by omega) (by omega)
                  exact ih_62 x89 r86_0 r86_1 r86_2 r86_3 r86_4 r86_5  (by omega) (by omega) (by omega) (by omega) (by omega) (by omega) (by have h8_0 := i_rng l2_62; have h8_1 := i_rng x89; omega)
        exact ⟨(200 : Int).toNat + 1, j_62   ((200 : Int).toNat + 1) 0 r57_0 r57_1 r57_2 r57_3 r57_4 r57_5  (by omega) (by omega) (by omega) (by omega) (by omega) (by omega) (by omega)⟩
      refine ⟨fun c39 => ?_, fun c39 => ?_⟩
      · have f74 : s0_32.toInt = 0 := i_eq (a := s0_32.toInt) (b := 0) rfl rfl c39
        exact j_47 0 (by omega)
      · have f75 : s0_32.toInt ≠ 0 := i_ne (a := s0_32.toInt) (b := 0) rfl rfl c39
        exact j_47 1 (by omega)
    refine ⟨fun c24 => ?_, fun c24 => ?_⟩
    · have f76 : r19.toInt ≠ 94 := i_ne (a := r19.toInt) (b := 94) rfl rfl c24
      exact j_32 0 (by omega)
    · have f77 : r19.toInt = 94 := i_eq (a := r19.toInt) (b := 94) rfl rfl c24
      exact j_32 1 (by omega)
  · have f78 : r1.toInt = 0 := i_eq (a := r1.toInt) (b := 0) rfl rfl c4
    exact hq r1_0 r1_1 v_count v_at r1_2 v_partCount v_sort v_value v_low v_high v_firstPart v_nextPart v_tree_ranges v_tree_rangeBegin v_tree_rangeEnd v_partBegin v_partEnd v_groups_c_pending v_groups_c_loopable v_groups_c_rowFirst v_groups_c_rowLast v_groups_c_rowCount (by omega) (by omega) (by omega) (by omega) (by omega) (by omega) (by omega) (by omega) (by omega) (by omega) (by omega) (rp_mono b0 (by omega) (by omega)) (rp_mono b0 (by omega) (by omega)) (by assumption)
