set_option maxHeartbeats 4000000 in
theorem ok_X1_keepChoice {p1 : Int32} {p2 : Int32} {v_place : Int32} {v_choiceCount : Int32} {v_trailCount : Int32} {v_choices : Nat → Int32} {nv_choices : Nat} {v_heights : Nat → Int32} {nv_heights : Nat} {h1 : Nat} {h2 : Nat} {Q : Int32 → Nat → (Nat → Int32) → Nat → Nat → (Nat → Int32) → Nat → Prop} (a0 : (nv_choices : Int) ≤ 524288) (a1 : (nv_choices : Int) = (nv_heights : Int)) (hq : ∀ (ov_choiceCount : Int32) (oh1 : Nat) (ov_choices : Nat → Int32) (onv_choices : Nat) (oh2 : Nat) (ov_heights : Nat → Int32) (onv_heights : Nat), v_choiceCount.toInt ≤ ov_choiceCount.toInt → (((onv_choices : Int) = 2 * (nv_choices : Int) ∧ (onv_heights : Int) = 2 * (nv_heights : Int) ∧ (nv_choices : Int) ≤ v_choiceCount.toInt ∧ (nv_choices : Int) ≤ 262143 ∧ 2 * (nv_choices : Int) ≤ 524288 ∧ 0 ≤ v_choiceCount.toInt) ∨ ((onv_choices : Int) = (nv_choices : Int) ∧ (onv_heights : Int) = (nv_heights : Int))) → Q ov_choiceCount oh1 ov_choices onv_choices oh2 ov_heights onv_heights) : w_X1_keepChoice p1 p2 v_place v_choiceCount v_trailCount v_choices nv_choices v_heights nv_heights h1 h2 Q := by
  have q_t : (bz true).toInt = 1 := rfl
  have q_f : (bz false).toInt = 0 := rfl
  unfold w_X1_keepChoice
  intro x8 ex8
  intro hn8
  have f1 : (nv_choices : Int) ≤ 524288 := by omega
  have f2 : x8.toInt = (nv_choices : Int) := i_len ex8 (by omega)
  have j_56 : ((v_choiceCount.toInt + 1 ≤ x8.toInt) ∨ (x8.toInt ≤ v_choiceCount.toInt ∧ 262144 ≤ (nv_choices : Int))) → w_X1_keepChoice_56 p1 p2 v_place v_trailCount nv_choices nv_heights h1 h2 Q v_choiceCount v_choices v_heights := by
    intro f3
    unfold w_X1_keepChoice_56
    have j_133 : ∀ (v_choiceCount_133 : Int32) (v_choices_133 : Nat → Int32) (v_heights_133 : Nat → Int32), v_choiceCount.toInt ≤ v_choiceCount_133.toInt → ((v_choiceCount_133.toInt = v_choiceCount.toInt ∧ v_choiceCount.toInt + 1 ≤ 0) ∨ (v_choiceCount_133.toInt = v_choiceCount.toInt ∧ 0 ≤ v_choiceCount.toInt ∧ (nv_choices : Int) ≤ v_choiceCount.toInt) ∨ (0 ≤ v_choiceCount.toInt ∧ v_choiceCount.toInt + 1 ≤ (nv_choices : Int) ∧ (nv_heights : Int) ≤ 524288 ∧ v_choiceCount.toInt + 1 ≤ (nv_heights : Int) ∧ v_choiceCount_133.toInt = v_choiceCount.toInt + 1)) → w_X1_keepChoice_133 nv_choices nv_heights h1 h2 Q v_choiceCount_133 v_choices_133 v_heights_133 := by
      intro v_choiceCount_133 v_choices_133 v_heights_133 f4 f5
      unfold w_X1_keepChoice_133
      exact hq v_choiceCount_133 h1 v_choices_133 nv_choices h2 v_heights_133 nv_heights (by omega) (by omega)
    refine ⟨fun c60 => ?_, fun c60 => ?_⟩
    · have f6 : v_choiceCount.toInt < 0 := i_lt (a := v_choiceCount.toInt) (b := 0) rfl rfl c60
      exact j_133 v_choiceCount v_choices v_heights (by omega) (by omega)
    · have f7 : 0 ≤ v_choiceCount.toInt := i_nlt (a := v_choiceCount.toInt) (b := 0) rfl rfl c60
      intro x71 ex71
      intro hn71
      have f8 : (nv_choices : Int) ≤ 524288 := by omega
      have f9 : x71.toInt = (nv_choices : Int) := i_len ex71 (by omega)
      refine ⟨fun c72 => ?_, fun c72 => ?_⟩
      · have f10 : x71.toInt ≤ v_choiceCount.toInt := i_le (a := x71.toInt) (b := v_choiceCount.toInt) rfl rfl c72
        exact j_133 v_choiceCount v_choices v_heights (by omega) (by omega)
      · have f11 : v_choiceCount.toInt < x71.toInt := i_nle (a := x71.toInt) (b := v_choiceCount.toInt) rfl rfl c72
        intro x83 ex83
        intro hn83
        have f12 : (nv_heights : Int) ≤ 524288 := by omega
        have f13 : x83.toInt = (nv_heights : Int) := i_len ex83 (by omega)
        refine ⟨fun c84 => ?_, fun c84 => ?_⟩
        · have f14 : x83.toInt ≤ v_choiceCount.toInt := i_le (a := x83.toInt) (b := v_choiceCount.toInt) rfl rfl c84
          exfalso; omega
        · have f15 : v_choiceCount.toInt < x83.toInt := i_nle (a := x83.toInt) (b := v_choiceCount.toInt) rfl rfl c84
          intro x97 ex97
          intro x99 ex99
          intro x103 ex103
          intro x108 ex108
          refine ⟨i_in (by omega) (by omega), ?_⟩
          intro g109 eg109
          refine ⟨i_in (by omega) (by omega), ?_⟩
          intro g122 eg122
          intro x129 ex129
          have f16 : x129.toInt = v_choiceCount.toInt + 1 := i_add (a := v_choiceCount.toInt) (b := 1) ex129 rfl rfl (by omega) (by omega)
          exact j_133 x129 g109 g122 (by omega) (by omega)
  refine ⟨fun c9 => ?_, fun c9 => ?_⟩
  · have f17 : v_choiceCount.toInt < x8.toInt := i_lt (a := v_choiceCount.toInt) (b := x8.toInt) rfl rfl c9
    exact j_56  (by omega)
  · have f18 : x8.toInt ≤ v_choiceCount.toInt := i_nlt (a := v_choiceCount.toInt) (b := x8.toInt) rfl rfl c9
    intro x16 ex16
    intro hn16
    have f19 : (nv_choices : Int) ≤ 524288 := by omega
    have f20 : x16.toInt = (nv_choices : Int) := i_len ex16 (by omega)
    refine ⟨fun c19 => ?_, fun c19 => ?_⟩
    · have f21 : 262144 ≤ x16.toInt := i_le (a := 262144) (b := x16.toInt) rfl rfl c19
      exact j_56  (by omega)
    · have f22 : x16.toInt < 262144 := i_nle (a := 262144) (b := x16.toInt) rfl rfl c19
      intro x31 ex31
      intro hn31
      have f23 : (nv_choices : Int) ≤ 524288 := by omega
      have f24 : x31.toInt = (nv_choices : Int) := i_len ex31 (by omega)
      intro x33 ex33
      have f25 : x33.toInt = x31.toInt * 2 := i_mul (a := x31.toInt) (b := 2) ex33 rfl rfl (by omega) (by omega)
      refine ⟨(i_nn (a := x33.toInt) rfl (by omega)), (i_cln (by omega)), (by omega), ?_⟩
      intro g34 ra34
      intro x100049 ex100049
      intro hn100049
      have f26 : 2 * (nv_choices : Int) ≤ 524288 := by omega
      have f27 : x100049.toInt = 2 * (nv_choices : Int) := by have h9 := i_len ex100049 (by omega); omega
      refine ⟨(i_nn (a := x100049.toInt) rfl (by omega)), (i_cln (by omega)), ?_⟩
      intro g100050 ra100050
      have j_200133 : ∀ (v_choiceCount_200133 : Int32) (vN34_200133 : Nat → Int32) (vN50_200133 : Nat → Int32), 0 ≤ v_choiceCount.toInt → v_choiceCount.toInt ≤ v_choiceCount_200133.toInt → ((v_choiceCount_200133.toInt = v_choiceCount.toInt ∧ 2 * (nv_choices : Int) ≤ v_choiceCount.toInt) ∨ (v_choiceCount.toInt + 1 ≤ 2 * (nv_choices : Int) ∧ 2 * (nv_heights : Int) ≤ 524288 ∧ v_choiceCount.toInt + 1 ≤ 2 * (nv_heights : Int) ∧ v_choiceCount_200133.toInt = v_choiceCount.toInt + 1)) → w_X1_keepChoice_200133 Q v_choiceCount_200133 v_choices v_heights ra34 vN34_200133 (2 * nv_choices) ra100050 vN50_200133 (2 * nv_heights) := by
        intro v_choiceCount_200133 vN34_200133 vN50_200133 f28 f29 f30
        unfold w_X1_keepChoice_200133
        exact hq v_choiceCount_200133 ra34 vN34_200133 (2 * nv_choices) ra100050 vN50_200133 (2 * nv_heights) (by omega) (by omega)
      refine ⟨fun c200060 => ?_, fun c200060 => ?_⟩
      · have f31 : v_choiceCount.toInt < 0 := i_lt (a := v_choiceCount.toInt) (b := 0) rfl rfl c200060
        exfalso; omega
      · have f32 : 0 ≤ v_choiceCount.toInt := i_nlt (a := v_choiceCount.toInt) (b := 0) rfl rfl c200060
        intro x200071 ex200071
        intro hn200071
        have f33 : 2 * (nv_choices : Int) ≤ 524288 := by omega
        have f34 : x200071.toInt = 2 * (nv_choices : Int) := by have h9 := i_len ex200071 (by omega); omega
        refine ⟨fun c200072 => ?_, fun c200072 => ?_⟩
        · have f35 : x200071.toInt ≤ v_choiceCount.toInt := i_le (a := x200071.toInt) (b := v_choiceCount.toInt) rfl rfl c200072
          exact j_200133 v_choiceCount g34 g100050 (by omega) (by omega) (by omega)
        · have f36 : v_choiceCount.toInt < x200071.toInt := i_nle (a := x200071.toInt) (b := v_choiceCount.toInt) rfl rfl c200072
          intro x200083 ex200083
          intro hn200083
          have f37 : 2 * (nv_heights : Int) ≤ 524288 := by omega
          have f38 : x200083.toInt = 2 * (nv_heights : Int) := by have h9 := i_len ex200083 (by omega); omega
          refine ⟨fun c200084 => ?_, fun c200084 => ?_⟩
          · have f39 : x200083.toInt ≤ v_choiceCount.toInt := i_le (a := x200083.toInt) (b := v_choiceCount.toInt) rfl rfl c200084
            exfalso; omega
          · have f40 : v_choiceCount.toInt < x200083.toInt := i_nle (a := x200083.toInt) (b := v_choiceCount.toInt) rfl rfl c200084
            intro x200097 ex200097
            intro x200099 ex200099
            intro x200103 ex200103
            intro x200108 ex200108
            refine ⟨i_in (by omega) (by omega), ?_⟩
            intro g200109 eg200109
            refine ⟨i_in (by omega) (by omega), ?_⟩
            intro g200122 eg200122
            intro x200129 ex200129
            have f41 : x200129.toInt = v_choiceCount.toInt + 1 := i_add (a := v_choiceCount.toInt) (b := 1) ex200129 rfl rfl (by omega) (by omega)
            exact j_200133 x200129 g200109 g200122 (by omega) (by omega) (by omega)
set_option maxHeartbeats 4000000 in
theorem ok_X1_enterRow {p1 : Int32} {v_mode : Int32} {v_node : Int32} {v_place : Int32} {v_choiceCount : Int32} {v_trailCount : Int32} {v_choices : Nat → Int32} {nv_choices : Nat} {v_heights : Nat → Int32} {nv_heights : Nat} {v_tree_count : Int32} {v_tree_holder : Nat → Int32} {v_tree_end : Nat → Int32} {h1 : Nat} {h2 : Nat} {Q : Int32 → Int32 → Int32 → Nat → (Nat → Int32) → Nat → Nat → (Nat → Int32) → Nat → Prop} (a0 : (nv_choices : Int) ≤ 524288) (a1 : (nv_choices : Int) = (nv_heights : Int)) (a2 : 0 ≤ v_tree_count.toInt) (a3 : v_tree_count.toInt ≤ 256) (b0 : rp (fun k v => k < v ∧ v ≤ 256) v_tree_end 0 v_tree_count.toInt) (b1 : rp (fun k v => v < k ∧ -1 ≤ v) v_tree_holder 0 v_tree_count.toInt) (hq : ∀ (ov_mode : Int32) (ov_node : Int32) (ov_choiceCount : Int32) (oh1 : Nat) (ov_choices : Nat → Int32) (onv_choices : Nat) (oh2 : Nat) (ov_heights : Nat → Int32) (onv_heights : Nat), ov_mode.toInt = 0 → ov_node.toInt = p1.toInt → (onv_choices : Int) ≤ 524288 → (onv_choices : Int) = (onv_heights : Int) → v_choiceCount.toInt ≤ ov_choiceCount.toInt → Q ov_mode ov_node ov_choiceCount oh1 ov_choices onv_choices oh2 ov_heights onv_heights) : w_X1_enterRow p1 v_mode v_node v_place v_choiceCount v_trailCount v_choices nv_choices v_heights nv_heights v_tree_count v_tree_holder v_tree_end h1 h2 Q := by
  have q_t : (bz true).toInt = 1 := rfl
  have q_f : (bz false).toInt = 0 := rfl
  have q_0 : (0 : Int32).toInt = 0 := rfl
  unfold w_X1_enterRow
  refine ok_X10_nextOf (by omega) (by omega) (rp_mono b0 (by omega) (by omega)) (rp_mono b1 (by omega) (by omega)) (fun r5 f1 f2 f3 => ?_)
  have j_20 : ∀ (v_choiceCount_20 : Int32) (h1_20 : Nat) (v_choices_20 : Nat → Int32) (nv_choices_20 : Nat) (h2_20 : Nat) (v_heights_20 : Nat → Int32) (nv_heights_20 : Nat), (nv_choices_20 : Int) ≤ 524288 → (nv_choices_20 : Int) = (nv_heights_20 : Int) → v_choiceCount.toInt ≤ v_choiceCount_20.toInt → ((v_choiceCount_20.toInt = v_choiceCount.toInt ∧ r5.toInt + 1 = 0) ∨ (v_choiceCount.toInt ≤ v_choiceCount_20.toInt)) → w_X1_enterRow_20 p1 Q v_mode v_node v_choiceCount_20 h1_20 v_choices_20 nv_choices_20 h2_20 v_heights_20 nv_heights_20 := by
    intro v_choiceCount_20 h1_20 v_choices_20 nv_choices_20 h2_20 v_heights_20 nv_heights_20 f4 f5 f6 f7
    unfold w_X1_enterRow_20
    exact hq 0 p1 v_choiceCount_20 h1_20 v_choices_20 nv_choices_20 h2_20 v_heights_20 nv_heights_20 (by omega) (by omega) (by omega) (by omega) (by omega)
  refine ⟨fun c11 => ?_, fun c11 => ?_⟩
  · have f8 : r5.toInt = (-1) := i_eq (a := r5.toInt) (b := (-1)) rfl rfl c11
    exact j_20 v_choiceCount h1 v_choices nv_choices h2 v_heights nv_heights (by omega) (by omega) (by omega) (by omega)
  · have f9 : r5.toInt ≠ (-1) := i_ne (a := r5.toInt) (b := (-1)) rfl rfl c11
    refine ok_X1_keepChoice (by omega) (by omega) (fun r17_0 r17_1 r17_2 r17_3 r17_4 r17_5 r17_6 f10 f11 => ?_)
    exact j_20 r17_0 r17_1 r17_2 r17_3 r17_4 r17_5 r17_6 (by omega) (by omega) (by omega) (by omega)
set_option maxHeartbeats 4000000 in
theorem ok_X1_setCell {p1 : Int32} {p2 : Int32} {v_trailCount : Int32} {v_cells : Nat → Int32} {v_trail : Nat → Int32} {nv_trail : Nat} {h4 : Nat} {Q : Int32 → (Nat → Int32) → Nat → (Nat → Int32) → Nat → Prop} (a0 : (nv_trail : Int) ≤ 524288) (hq : ∀ (ov_trailCount : Int32) (ov_cells : Nat → Int32) (oh4 : Nat) (ov_trail : Nat → Int32) (onv_trail : Nat), v_trailCount.toInt ≤ ov_trailCount.toInt → (onv_trail : Int) ≤ 524288 → Q ov_trailCount ov_cells oh4 ov_trail onv_trail) : w_X1_setCell p1 p2 v_trailCount v_cells v_trail nv_trail h4 Q := by
  have q_t : (bz true).toInt = 1 := rfl
  have q_f : (bz false).toInt = 0 := rfl
  unfold w_X1_setCell
  have j_13 : ((p1.toInt + 1 ≤ 0) ∨ (0 ≤ p1.toInt ∧ 266 ≤ p1.toInt)) → w_X1_setCell_13 nv_trail h4 Q v_trailCount v_cells v_trail := by
    intro f1
    unfold w_X1_setCell_13
    exact hq v_trailCount v_cells h4 v_trail nv_trail (by omega) (by omega)
  refine ⟨fun c1 => ?_, fun c1 => ?_⟩
  · have f2 : p1.toInt < 0 := i_lt (a := p1.toInt) (b := 0) rfl rfl c1
    exact j_13  (by omega)
  · have f3 : 0 ≤ p1.toInt := i_nlt (a := p1.toInt) (b := 0) rfl rfl c1
    refine ⟨fun c10 => ?_, fun c10 => ?_⟩
    · have f4 : p1.toInt < 266 := i_lt (a := p1.toInt) (b := 266) rfl rfl c10
      intro x22 ex22
      intro hn22
      have f5 : (nv_trail : Int) ≤ 524288 := by omega
      have f6 : x22.toInt = (nv_trail : Int) := i_len ex22 (by omega)
      have j_54 : ((v_trailCount.toInt + 1 ≤ x22.toInt) ∨ (x22.toInt ≤ v_trailCount.toInt ∧ 262144 ≤ (nv_trail : Int))) → w_X1_setCell_54 p1 p2 nv_trail h4 Q v_trailCount v_cells v_trail := by
        intro f7
        unfold w_X1_setCell_54
        have j_103 : ∀ (v_trailCount_103 : Int32) (v_trail_103 : Nat → Int32), v_trailCount.toInt ≤ v_trailCount_103.toInt → ((v_trailCount_103.toInt = v_trailCount.toInt ∧ v_trailCount.toInt + 1 ≤ 0) ∨ (v_trailCount_103.toInt = v_trailCount.toInt ∧ 0 ≤ v_trailCount.toInt ∧ (nv_trail : Int) ≤ v_trailCount.toInt) ∨ (0 ≤ v_trailCount.toInt ∧ v_trailCount.toInt + 1 ≤ (nv_trail : Int) ∧ v_trailCount_103.toInt = v_trailCount.toInt + 1)) → w_X1_setCell_103 p1 p2 nv_trail h4 Q v_trailCount_103 v_cells v_trail_103 := by
          intro v_trailCount_103 v_trail_103 f8 f9
          unfold w_X1_setCell_103
          refine ⟨i_in (by omega) (by omega), ?_⟩
          intro g109 eg109
          exact hq v_trailCount_103 g109 h4 v_trail_103 nv_trail (by omega) (by omega)
        refine ⟨fun c58 => ?_, fun c58 => ?_⟩
        · have f10 : v_trailCount.toInt < 0 := i_lt (a := v_trailCount.toInt) (b := 0) rfl rfl c58
          exact j_103 v_trailCount v_trail (by omega) (by omega)
        · have f11 : 0 ≤ v_trailCount.toInt := i_nlt (a := v_trailCount.toInt) (b := 0) rfl rfl c58
          intro x69 ex69
          intro hn69
          have f12 : (nv_trail : Int) ≤ 524288 := by omega
          have f13 : x69.toInt = (nv_trail : Int) := i_len ex69 (by omega)
          refine ⟨fun c70 => ?_, fun c70 => ?_⟩
          · have f14 : x69.toInt ≤ v_trailCount.toInt := i_le (a := x69.toInt) (b := v_trailCount.toInt) rfl rfl c70
            exact j_103 v_trailCount v_trail (by omega) (by omega)
          · have f15 : v_trailCount.toInt < x69.toInt := i_nle (a := x69.toInt) (b := v_trailCount.toInt) rfl rfl c70
            intro x84 ex84
            have f16 : x84.toInt = p1.toInt * 65536 := i_mul (a := p1.toInt) (b := 65536) ex84 rfl rfl (by omega) (by omega)
            refine ⟨i_in (by omega) (by omega), ?_⟩
            intro x90 ex90
            intro x91 ex91
            refine ⟨i_in (by omega) (by omega), ?_⟩
            intro g92 eg92
            intro x99 ex99
            have f17 : x99.toInt = v_trailCount.toInt + 1 := i_add (a := v_trailCount.toInt) (b := 1) ex99 rfl rfl (by omega) (by omega)
            exact j_103 x99 g92 (by omega) (by omega)
      refine ⟨fun c23 => ?_, fun c23 => ?_⟩
      · have f18 : v_trailCount.toInt < x22.toInt := i_lt (a := v_trailCount.toInt) (b := x22.toInt) rfl rfl c23
        exact j_54  (by omega)
      · have f19 : x22.toInt ≤ v_trailCount.toInt := i_nlt (a := v_trailCount.toInt) (b := x22.toInt) rfl rfl c23
        intro x30 ex30
        intro hn30
        have f20 : (nv_trail : Int) ≤ 524288 := by omega
        have f21 : x30.toInt = (nv_trail : Int) := i_len ex30 (by omega)
        refine ⟨fun c33 => ?_, fun c33 => ?_⟩
        · have f22 : 262144 ≤ x30.toInt := i_le (a := 262144) (b := x30.toInt) rfl rfl c33
          exact j_54  (by omega)
        · have f23 : x30.toInt < 262144 := i_nle (a := 262144) (b := x30.toInt) rfl rfl c33
          intro x45 ex45
          intro hn45
          have f24 : (nv_trail : Int) ≤ 524288 := by omega
          have f25 : x45.toInt = (nv_trail : Int) := i_len ex45 (by omega)
          intro x47 ex47
          have f26 : x47.toInt = x45.toInt * 2 := i_mul (a := x45.toInt) (b := 2) ex47 rfl rfl (by omega) (by omega)
          refine ⟨(i_nn (a := x47.toInt) rfl (by omega)), (i_cln (by omega)), (by omega), ?_⟩
          intro g48 ra48
          have j_100103 : ∀ (v_trailCount_100103 : Int32) (vN48_100103 : Nat → Int32), 0 ≤ v_trailCount.toInt → 2 * (nv_trail : Int) ≤ 524288 → v_trailCount.toInt ≤ v_trailCount_100103.toInt → ((v_trailCount_100103.toInt = v_trailCount.toInt ∧ 2 * (nv_trail : Int) ≤ v_trailCount.toInt) ∨ (v_trailCount.toInt + 1 ≤ 2 * (nv_trail : Int) ∧ v_trailCount_100103.toInt = v_trailCount.toInt + 1)) → w_X1_setCell_100103 p1 p2 Q v_trailCount_100103 v_cells v_trail ra48 vN48_100103 (2 * nv_trail) := by
            intro v_trailCount_100103 vN48_100103 f27 f28 f29 f30
            unfold w_X1_setCell_100103
            refine ⟨i_in (by omega) (by omega), ?_⟩
            intro g100109 eg100109
            exact hq v_trailCount_100103 g100109 ra48 vN48_100103 (2 * nv_trail) (by omega) (by omega)
          refine ⟨fun c100058 => ?_, fun c100058 => ?_⟩
          · have f31 : v_trailCount.toInt < 0 := i_lt (a := v_trailCount.toInt) (b := 0) rfl rfl c100058
            exfalso; omega
          · have f32 : 0 ≤ v_trailCount.toInt := i_nlt (a := v_trailCount.toInt) (b := 0) rfl rfl c100058
            intro x100069 ex100069
            intro hn100069
            have f33 : 2 * (nv_trail : Int) ≤ 524288 := by omega
            have f34 : x100069.toInt = 2 * (nv_trail : Int) := by have h9 := i_len ex100069 (by omega); omega
            refine ⟨fun c100070 => ?_, fun c100070 => ?_⟩
            · have f35 : x100069.toInt ≤ v_trailCount.toInt := i_le (a := x100069.toInt) (b := v_trailCount.toInt) rfl rfl c100070
              exact j_100103 v_trailCount g48 (by omega) (by omega) (by omega) (by omega)
            · have f36 : v_trailCount.toInt < x100069.toInt := i_nle (a := x100069.toInt) (b := v_trailCount.toInt) rfl rfl c100070
              intro x100084 ex100084
              have f37 : x100084.toInt = p1.toInt * 65536 := i_mul (a := p1.toInt) (b := 65536) ex100084 rfl rfl (by omega) (by omega)
              refine ⟨i_in (by omega) (by omega), ?_⟩
              intro x100090 ex100090
              intro x100091 ex100091
              refine ⟨i_in (by omega) (by omega), ?_⟩
              intro g100092 eg100092
              intro x100099 ex100099
              have f38 : x100099.toInt = v_trailCount.toInt + 1 := i_add (a := v_trailCount.toInt) (b := 1) ex100099 rfl rfl (by omega) (by omega)
              exact j_100103 x100099 g100092 (by omega) (by omega) (by omega) (by omega)
    · have f39 : 266 ≤ p1.toInt := i_nlt (a := p1.toInt) (b := 266) rfl rfl c10
      exact j_13  (by omega)
set_option maxHeartbeats 4000000 in
theorem ok_X1_step {v_steps : Int32} {v_limit : Int32} {v_verdict : Int32} {Q : Int32 → Int32 → Int32 → Prop} (hq : ∀ (r : Int32) (ov_steps : Int32) (ov_verdict : Int32), v_steps.toInt ≤ ov_steps.toInt → ((r.toInt = 1 ∧ ov_verdict.toInt = v_verdict.toInt ∧ v_steps.toInt + 1 ≤ v_limit.toInt ∧ ov_steps.toInt = v_steps.toInt + 1) ∨ (r.toInt = 0 ∧ ov_steps.toInt = v_steps.toInt ∧ ov_verdict.toInt = 3 ∧ v_limit.toInt ≤ v_steps.toInt)) → Q r ov_steps ov_verdict) : w_X1_step v_steps v_limit v_verdict Q := by
  have q_t : (bz true).toInt = 1 := rfl
  have q_f : (bz false).toInt = 0 := rfl
  have q_0 : (0 : Int32).toInt = 0 := rfl
  have q_1 : (1 : Int32).toInt = 1 := rfl
  have q_3 : (3 : Int32).toInt = 3 := rfl
  unfold w_X1_step
  refine ⟨fun c8 => ?_, fun c8 => ?_⟩
  · have f1 : v_steps.toInt < v_limit.toInt := i_lt (a := v_steps.toInt) (b := v_limit.toInt) rfl rfl c8
    intro x24 ex24
    have f2 : x24.toInt = v_steps.toInt + 1 := i_add (a := v_steps.toInt) (b := 1) ex24 rfl rfl (by have h8_0 := i_rng v_limit; have h8_1 := i_rng v_steps; omega) (by have h8_0 := i_rng v_limit; have h8_1 := i_rng v_steps; omega)
    exact hq 1 x24 v_verdict (by omega) (by omega)
  · have f3 : v_limit.toInt ≤ v_steps.toInt := i_nlt (a := v_steps.toInt) (b := v_limit.toInt) rfl rfl c8
    exact hq 0 v_steps 3 (by omega) (by omega)
set_option maxHeartbeats 4000000 in
theorem ok_X1_markBase {v_node : Int32} {v_place : Int32} {v_choiceCount : Int32} {v_base : Nat → Int32} {v_entry : Nat → Int32} {v_from : Nat → Int32} {Q : (Nat → Int32) → (Nat → Int32) → (Nat → Int32) → Prop} (hq : ∀ (ov_base : Nat → Int32) (ov_entry : Nat → Int32) (ov_from : Nat → Int32), Q ov_base ov_entry ov_from) : w_X1_markBase v_node v_place v_choiceCount v_base v_entry v_from Q := by
  have q_t : (bz true).toInt = 1 := rfl
  have q_f : (bz false).toInt = 0 := rfl
  unfold w_X1_markBase
  have j_56 : ∀ (v_base_56 : Nat → Int32) (v_entry_56 : Nat → Int32) (v_from_56 : Nat → Int32), ((v_node.toInt + 1 ≤ 0) ∨ (0 ≤ v_node.toInt ∧ 256 ≤ v_node.toInt) ∨ (0 ≤ v_node.toInt ∧ v_node.toInt ≤ 255)) → w_X1_markBase_56 Q v_base_56 v_entry_56 v_from_56 := by
    intro v_base_56 v_entry_56 v_from_56 f1
    unfold w_X1_markBase_56
    exact hq v_base_56 v_entry_56 v_from_56 
  refine ⟨fun c4 => ?_, fun c4 => ?_⟩
  · have f2 : v_node.toInt < 0 := i_lt (a := v_node.toInt) (b := 0) rfl rfl c4
    exact j_56 v_base v_entry v_from (by omega)
  · have f3 : 0 ≤ v_node.toInt := i_nlt (a := v_node.toInt) (b := 0) rfl rfl c4
    refine ⟨fun c14 => ?_, fun c14 => ?_⟩
    · have f4 : 256 ≤ v_node.toInt := i_le (a := 256) (b := v_node.toInt) rfl rfl c14
      exact j_56 v_base v_entry v_from (by omega)
    · have f5 : v_node.toInt < 256 := i_nle (a := 256) (b := v_node.toInt) rfl rfl c14
      refine ⟨i_in (by omega) (by omega), ?_⟩
      intro g29 eg29
      refine ⟨i_in (by omega) (by omega), ?_⟩
      intro g42 eg42
      refine ⟨i_in (by omega) (by omega), ?_⟩
      intro g55 eg55
      exact j_56 g29 g42 g55 (by omega)
set_option maxHeartbeats 4000000 in
theorem ok_X1_enterLoop {v_steps : Int32} {v_mode : Int32} {v_node : Int32} {v_place : Int32} {v_limit : Int32} {v_verdict : Int32} {v_choiceCount : Int32} {v_trailCount : Int32} {v_cells : Nat → Int32} {v_base : Nat → Int32} {v_entry : Nat → Int32} {v_from : Nat → Int32} {v_trail : Nat → Int32} {nv_trail : Nat} {v_tree_count : Int32} {v_tree_value : Nat → Int32} {h7 : Nat} {Q : Int32 → Int32 → Int32 → Int32 → (Nat → Int32) → (Nat → Int32) → (Nat → Int32) → (Nat → Int32) → Nat → (Nat → Int32) → Nat → Prop} (a0 : (nv_trail : Int) ≤ 524288) (a1 : 0 ≤ v_tree_count.toInt) (a2 : v_tree_count.toInt ≤ 256) (hq : ∀ (ov_steps : Int32) (ov_mode : Int32) (ov_verdict : Int32) (ov_trailCount : Int32) (ov_cells : Nat → Int32) (ov_base : Nat → Int32) (ov_entry : Nat → Int32) (ov_from : Nat → Int32) (oh7 : Nat) (ov_trail : Nat → Int32) (onv_trail : Nat), v_steps.toInt ≤ ov_steps.toInt → v_trailCount.toInt ≤ ov_trailCount.toInt → ((ov_mode.toInt = v_mode.toInt ∧ ov_trailCount.toInt = v_trailCount.toInt ∧ (onv_trail : Int) = (nv_trail : Int)) ∨ (ov_mode.toInt = 3 ∧ v_verdict.toInt ≤ ov_verdict.toInt ∧ ov_verdict.toInt ≤ v_verdict.toInt ∧ v_trailCount.toInt ≤ ov_trailCount.toInt ∧ (onv_trail : Int) ≤ 524288)) → Q ov_steps ov_mode ov_verdict ov_trailCount ov_cells ov_base ov_entry ov_from oh7 ov_trail onv_trail) : w_X1_enterLoop v_steps v_mode v_node v_place v_limit v_verdict v_choiceCount v_trailCount v_cells v_base v_entry v_from v_trail nv_trail v_tree_count v_tree_value h7 Q := by
  have q_t : (bz true).toInt = 1 := rfl
  have q_f : (bz false).toInt = 0 := rfl
  have q_0 : (0 : Int32).toInt = 0 := rfl
  have q_3 : (3 : Int32).toInt = 3 := rfl
  unfold w_X1_enterLoop
  refine ok_X10_valueOf (by omega) (by omega) (fun r8 f1 => ?_)
  have j_27 : ∀ (v_steps_27 : Int32) (v_verdict_27 : Int32) (v_base_27 : Nat → Int32) (v_entry_27 : Nat → Int32) (v_from_27 : Nat → Int32), v_steps.toInt ≤ v_steps_27.toInt → v_verdict.toInt ≤ v_verdict_27.toInt → v_verdict_27.toInt ≤ v_verdict.toInt → ((v_steps_27.toInt = v_steps.toInt ∧ v_verdict_27.toInt = v_verdict.toInt) ∨ (r8.toInt = 2 ∧ v_steps.toInt ≤ v_steps_27.toInt)) → w_X1_enterLoop_27 v_node Q v_steps_27 v_mode v_verdict_27 v_trailCount v_cells v_base_27 v_entry_27 v_from_27 h7 v_trail nv_trail := by
    intro v_steps_27 v_verdict_27 v_base_27 v_entry_27 v_from_27 f2 f3 f4 f5
    unfold w_X1_enterLoop_27
    refine ok_X1_setCell (by omega) (fun r33_0 r33_1 r33_2 r33_3 r33_4 f6 f7 => ?_)
    exact hq v_steps_27 3 v_verdict_27 r33_0 r33_1 v_base_27 v_entry_27 v_from_27 r33_2 r33_3 r33_4 (by omega) (by omega) (by omega)
  refine ⟨fun c12 => ?_, fun c12 => ?_⟩
  · have f8 : r8.toInt ≠ 2 := i_ne (a := r8.toInt) (b := 2) rfl rfl c12
    exact j_27 v_steps v_verdict v_base v_entry v_from (by omega) (by omega) (by omega) (by omega)
  · have f9 : r8.toInt = 2 := i_eq (a := r8.toInt) (b := 2) rfl rfl c12
    refine ok_X1_step  (fun r16 r16_0 r16_1 f10 f11 => ?_)
    refine ⟨fun c19 => ?_, fun c19 => ?_⟩
    · have f12 : r16.toInt ≠ 0 := i_ne (a := r16.toInt) (b := 0) rfl rfl c19
      refine ok_X1_markBase  (fun r24_0 r24_1 r24_2 => ?_)
      exact j_27 r16_0 r16_1 r24_0 r24_1 r24_2 (by omega) (by omega) (by omega) (by omega)
    · have f13 : r16.toInt = 0 := i_eq (a := r16.toInt) (b := 0) rfl rfl c19
      exact hq r16_0 v_mode r16_1 v_trailCount v_cells v_base v_entry v_from h7 v_trail nv_trail (by omega) (by omega) (by omega)
set_option maxHeartbeats 4000000 in
theorem ok_X1_cell {p1 : Int32} {v_cells : Nat → Int32} {Q : Int32 → Prop} (hq : ∀ (r : Int32), ((0 ≤ p1.toInt ∧ p1.toInt ≤ 265) ∨ (r.toInt = 0)) → Q r) : w_X1_cell p1 v_cells Q := by
  have q_t : (bz true).toInt = 1 := rfl
  have q_f : (bz false).toInt = 0 := rfl
  have q_0 : (0 : Int32).toInt = 0 := rfl
  unfold w_X1_cell
  have j_23 : ∀ (s0_23 : Int32), ((0 ≤ p1.toInt ∧ p1.toInt ≤ 265) ∨ (s0_23.toInt = 0)) → w_X1_cell_23 Q s0_23 := by
    intro s0_23 f1
    unfold w_X1_cell_23
    exact hq s0_23 (by omega)
  have j_22 : ((p1.toInt + 1 ≤ 0) ∨ (0 ≤ p1.toInt ∧ 266 ≤ p1.toInt)) → w_X1_cell_22 Q := by
    intro f2
    unfold w_X1_cell_22
    exact j_23 0 (by omega)
  refine ⟨fun c1 => ?_, fun c1 => ?_⟩
  · have f3 : p1.toInt < 0 := i_lt (a := p1.toInt) (b := 0) rfl rfl c1
    exact j_22  (by omega)
  · have f4 : 0 ≤ p1.toInt := i_nlt (a := p1.toInt) (b := 0) rfl rfl c1
    refine ⟨fun c10 => ?_, fun c10 => ?_⟩
    · have f5 : 266 ≤ p1.toInt := i_le (a := 266) (b := p1.toInt) rfl rfl c10
      exact j_22  (by omega)
    · have f6 : p1.toInt < 266 := i_nle (a := 266) (b := p1.toInt) rfl rfl c10
      refine ⟨i_in (by omega) (by omega), ?_⟩
      intro x18 ex18
      exact j_23 x18 (by omega)
set_option maxHeartbeats 4000000 in
theorem ok_X1_enterPart {v_node : Int32} {v_tree_count : Int32} {v_tree_end : Nat → Int32} {Q : Int32 → Int32 → Prop} (a0 : 0 ≤ v_tree_count.toInt) (a1 : v_tree_count.toInt ≤ 256) (b0 : rp (fun k v => k < v ∧ v ≤ 256) v_tree_end 0 v_tree_count.toInt) (hq : ∀ (ov_mode : Int32) (ov_node : Int32), v_node.toInt ≤ ov_node.toInt → 0 ≤ ov_mode.toInt → ov_mode.toInt ≤ 1 → Q ov_mode ov_node) : w_X1_enterPart v_node v_tree_count v_tree_end Q := by
  have q_t : (bz true).toInt = 1 := rfl
  have q_f : (bz false).toInt = 0 := rfl
  have q_0 : (0 : Int32).toInt = 0 := rfl
  have q_1 : (1 : Int32).toInt = 1 := rfl
  unfold w_X1_enterPart
  refine ok_X10_firstOf (by omega) (by omega) (rp_mono b0 (by omega) (by omega)) (fun r8 f1 f2 => ?_)
  have j_35 : ∀ (v_mode_35 : Int32) (v_node_35 : Int32), v_node.toInt ≤ v_node_35.toInt → ((v_mode_35.toInt = 0 ∧ v_node_35.toInt = r8.toInt) ∨ (v_mode_35.toInt = 1 ∧ v_node_35.toInt = v_node.toInt ∧ r8.toInt + 1 = 0)) → w_X1_enterPart_35 Q v_mode_35 v_node_35 := by
    intro v_mode_35 v_node_35 f3 f4
    unfold w_X1_enterPart_35
    exact hq v_mode_35 v_node_35 (by omega) (by omega) (by omega)
  refine ⟨fun c14 => ?_, fun c14 => ?_⟩
  · have f5 : r8.toInt ≠ (-1) := i_ne (a := r8.toInt) (b := (-1)) rfl rfl c14
    exact j_35 0 r8 (by omega) (by omega)
  · have f6 : r8.toInt = (-1) := i_eq (a := r8.toInt) (b := (-1)) rfl rfl c14
    exact j_35 1 v_node (by omega) (by omega)
set_option maxHeartbeats 4000000 in
theorem ok_X1_turn {v_steps : Int32} {v_mode : Int32} {v_node : Int32} {v_place : Int32} {v_limit : Int32} {v_verdict : Int32} {v_trailCount : Int32} {v_cells : Nat → Int32} {v_trail : Nat → Int32} {nv_trail : Nat} {v_tree_count : Int32} {v_tree_end : Nat → Int32} {h4 : Nat} {Q : Int32 → Int32 → Int32 → Int32 → Int32 → (Nat → Int32) → Nat → (Nat → Int32) → Nat → Prop} (a0 : (nv_trail : Int) ≤ 524288) (a1 : 0 ≤ v_tree_count.toInt) (a2 : v_tree_count.toInt ≤ 256) (b0 : rp (fun k v => k < v ∧ v ≤ 256) v_tree_end 0 v_tree_count.toInt) (hq : ∀ (ov_steps : Int32) (ov_mode : Int32) (ov_node : Int32) (ov_verdict : Int32) (ov_trailCount : Int32) (ov_cells : Nat → Int32) (oh4 : Nat) (ov_trail : Nat → Int32) (onv_trail : Nat), v_steps.toInt ≤ ov_steps.toInt → (onv_trail : Int) ≤ 524288 → v_node.toInt ≤ ov_node.toInt → v_trailCount.toInt ≤ ov_trailCount.toInt → Q ov_steps ov_mode ov_node ov_verdict ov_trailCount ov_cells oh4 ov_trail onv_trail) : w_X1_turn v_steps v_mode v_node v_place v_limit v_verdict v_trailCount v_cells v_trail nv_trail v_tree_count v_tree_end h4 Q := by
  have q_t : (bz true).toInt = 1 := rfl
  have q_f : (bz false).toInt = 0 := rfl
  unfold w_X1_turn
  refine ok_X1_step  (fun r1 r1_0 r1_1 f1 f2 => ?_)
  have j_44 : ∀ (v_mode_44 : Int32) (v_node_44 : Int32) (v_trailCount_44 : Int32) (v_cells_44 : Nat → Int32) (h4_44 : Nat) (v_trail_44 : Nat → Int32) (nv_trail_44 : Nat), (nv_trail_44 : Int) ≤ 524288 → v_node.toInt ≤ v_node_44.toInt → v_trailCount.toInt ≤ v_trailCount_44.toInt → ((v_mode_44.toInt = v_mode.toInt ∧ v_node_44.toInt = v_node.toInt ∧ v_trailCount_44.toInt = v_trailCount.toInt ∧ r1.toInt = 0) ∨ (v_trailCount.toInt ≤ v_trailCount_44.toInt ∧ v_node.toInt ≤ v_node_44.toInt ∧ 0 ≤ v_mode_44.toInt ∧ v_mode_44.toInt ≤ 1)) → w_X1_turn_44 Q r1_0 v_mode_44 v_node_44 r1_1 v_trailCount_44 v_cells_44 h4_44 v_trail_44 nv_trail_44 := by
    intro v_mode_44 v_node_44 v_trailCount_44 v_cells_44 h4_44 v_trail_44 nv_trail_44 f3 f4 f5 f6
    unfold w_X1_turn_44
    exact hq r1_0 v_mode_44 v_node_44 r1_1 v_trailCount_44 v_cells_44 h4_44 v_trail_44 nv_trail_44 (by omega) (by omega) (by omega) (by omega)
  refine ⟨fun c4 => ?_, fun c4 => ?_⟩
  · have f7 : r1.toInt = 0 := i_eq (a := r1.toInt) (b := 0) rfl rfl c4
    exact j_44 v_mode v_node v_trailCount v_cells h4 v_trail nv_trail (by omega) (by omega) (by omega) (by omega)
  · have f8 : r1.toInt ≠ 0 := i_ne (a := r1.toInt) (b := 0) rfl rfl c4
    refine ok_X1_cell  (fun r12 f9 => ?_)
    intro x18 ex18
    intro x20 ex20
    intro x31 ex31
    intro x36 ex36
    refine ok_X1_setCell (by omega) (fun r37_0 r37_1 r37_2 r37_3 r37_4 f10 f11 => ?_)
    refine ok_X1_enterPart (by omega) (by omega) (rp_mono b0 (by omega) (by omega)) (fun r41_0 r41_1 f12 f13 f14 => ?_)
    exact j_44 r41_0 r41_1 r37_0 r37_1 r37_2 r37_3 r37_4 (by omega) (by omega) (by omega) (by omega)
set_option maxHeartbeats 4000000 in
theorem ok_X1_tryFrom {v_steps : Int32} {v_mode : Int32} {v_node : Int32} {v_place : Int32} {v_limit : Int32} {v_verdict : Int32} {v_choiceCount : Int32} {v_trailCount : Int32} {v_from : Nat → Int32} {v_choices : Nat → Int32} {nv_choices : Nat} {v_heights : Nat → Int32} {nv_heights : Nat} {v_tree_count : Int32} {v_tree_end : Nat → Int32} {h2 : Nat} {h3 : Nat} {Q : Int32 → Int32 → Int32 → Int32 → Int32 → Int32 → Nat → (Nat → Int32) → Nat → Nat → (Nat → Int32) → Nat → Prop} (a0 : (nv_choices : Int) ≤ 524288) (a1 : (nv_choices : Int) = (nv_heights : Int)) (a2 : 0 ≤ v_tree_count.toInt) (a3 : v_tree_count.toInt ≤ 256) (b0 : rp (fun k v => k < v ∧ v ≤ 256) v_tree_end 0 v_tree_count.toInt) (hq : ∀ (ov_steps : Int32) (ov_mode : Int32) (ov_node : Int32) (ov_place : Int32) (ov_verdict : Int32) (ov_choiceCount : Int32) (oh2 : Nat) (ov_choices : Nat → Int32) (onv_choices : Nat) (oh3 : Nat) (ov_heights : Nat → Int32) (onv_heights : Nat), v_steps.toInt ≤ ov_steps.toInt → (onv_choices : Int) ≤ 524288 → (onv_choices : Int) = (onv_heights : Int) → v_node.toInt ≤ ov_node.toInt → v_choiceCount.toInt ≤ ov_choiceCount.toInt → Q ov_steps ov_mode ov_node ov_place ov_verdict ov_choiceCount oh2 ov_choices onv_choices oh3 ov_heights onv_heights) : w_X1_tryFrom v_steps v_mode v_node v_place v_limit v_verdict v_choiceCount v_trailCount v_from v_choices nv_choices v_heights nv_heights v_tree_count v_tree_end h2 h3 Q := by
  have q_t : (bz true).toInt = 1 := rfl
  have q_f : (bz false).toInt = 0 := rfl
  have q_0 : (0 : Int32).toInt = 0 := rfl
  have q_3 : (3 : Int32).toInt = 3 := rfl
  unfold w_X1_tryFrom
  refine ok_X1_step  (fun r1 r1_0 r1_1 f1 f2 => ?_)
  have j_54 : ∀ (v_mode_54 : Int32) (v_node_54 : Int32) (v_place_54 : Int32) (v_choiceCount_54 : Int32) (h2_54 : Nat) (v_choices_54 : Nat → Int32) (nv_choices_54 : Nat) (h3_54 : Nat) (v_heights_54 : Nat → Int32) (nv_heights_54 : Nat), (nv_choices_54 : Int) ≤ 524288 → (nv_choices_54 : Int) = (nv_heights_54 : Int) → v_node.toInt ≤ v_node_54.toInt → v_choiceCount.toInt ≤ v_choiceCount_54.toInt → ((v_mode_54.toInt = v_mode.toInt ∧ v_node_54.toInt = v_node.toInt ∧ v_place_54.toInt = v_place.toInt ∧ v_choiceCount_54.toInt = v_choiceCount.toInt ∧ r1.toInt = 0) ∨ (v_choiceCount.toInt ≤ v_choiceCount_54.toInt ∧ v_node.toInt ≤ v_node_54.toInt ∧ 0 ≤ v_mode_54.toInt ∧ v_mode_54.toInt ≤ 1)) → w_X1_tryFrom_54 Q r1_0 v_mode_54 v_node_54 v_place_54 r1_1 v_choiceCount_54 h2_54 v_choices_54 nv_choices_54 h3_54 v_heights_54 nv_heights_54 := by
    intro v_mode_54 v_node_54 v_place_54 v_choiceCount_54 h2_54 v_choices_54 nv_choices_54 h3_54 v_heights_54 nv_heights_54 f3 f4 f5 f6 f7
    unfold w_X1_tryFrom_54
    exact hq r1_0 v_mode_54 v_node_54 v_place_54 r1_1 v_choiceCount_54 h2_54 v_choices_54 nv_choices_54 h3_54 v_heights_54 nv_heights_54 (by omega) (by omega) (by omega) (by omega) (by omega)
  refine ⟨fun c4 => ?_, fun c4 => ?_⟩
  · have f8 : r1.toInt = 0 := i_eq (a := r1.toInt) (b := 0) rfl rfl c4
    exact j_54 v_mode v_node v_place v_choiceCount h2 v_choices nv_choices h3 v_heights nv_heights (by omega) (by omega) (by omega) (by omega) (by omega)
  · have f9 : r1.toInt ≠ 0 := i_ne (a := r1.toInt) (b := 0) rfl rfl c4
    refine ok_X1_keepChoice (by omega) (by omega) (fun r13_0 r13_1 r13_2 r13_3 r13_4 r13_5 r13_6 f10 f11 => ?_)
    have j_47 : ∀ (s0_47 : Int32), ((0 ≤ v_node.toInt ∧ v_node.toInt ≤ 255) ∨ (s0_47.toInt = 0)) → w_X1_tryFrom_47 v_tree_count v_tree_end Q s0_47 r1_0 v_mode v_node v_place r1_1 r13_0 r13_1 r13_2 r13_3 r13_4 r13_5 r13_6 := by
      intro s0_47 f12
      unfold w_X1_tryFrom_47
      refine ok_X1_enterPart (by omega) (by omega) (rp_mono b0 (by omega) (by omega)) (fun r51_0 r51_1 f13 f14 f15 => ?_)
      exact j_54 r51_0 r51_1 s0_47 r13_0 r13_1 r13_2 r13_3 r13_4 r13_5 r13_6 (by omega) (by omega) (by omega) (by omega) (by omega)
    have j_46 : ((v_node.toInt + 1 ≤ 0) ∨ (0 ≤ v_node.toInt ∧ 256 ≤ v_node.toInt)) → w_X1_tryFrom_46 v_tree_count v_tree_end Q r1_0 v_mode v_node v_place r1_1 r13_0 r13_1 r13_2 r13_3 r13_4 r13_5 r13_6 := by
      intro f16
      unfold w_X1_tryFrom_46
      exact j_47 0 (by omega)
    refine ⟨fun c21 => ?_, fun c21 => ?_⟩
    · have f17 : v_node.toInt < 0 := i_lt (a := v_node.toInt) (b := 0) rfl rfl c21
      exact j_46  (by omega)
    · have f18 : 0 ≤ v_node.toInt := i_nlt (a := v_node.toInt) (b := 0) rfl rfl c21
      refine ⟨fun c31 => ?_, fun c31 => ?_⟩
      · have f19 : 256 ≤ v_node.toInt := i_le (a := 256) (b := v_node.toInt) rfl rfl c31
        exact j_46  (by omega)
      · have f20 : v_node.toInt < 256 := i_nle (a := 256) (b := v_node.toInt) rfl rfl c31
        refine ⟨i_in (by omega) (by omega), ?_⟩
        intro x42 ex42
        exact j_47 x42 (by omega)
set_option maxHeartbeats 4000000 in
theorem ok_X1_looksBehind {v_node : Int32} {v_tree_count : Int32} {v_tree_sort : Nat → Int32} {v_tree_value : Nat → Int32} {Q : Int32 → Prop} (a0 : 0 ≤ v_tree_count.toInt) (a1 : v_tree_count.toInt ≤ 256) (hq : ∀ (r : Int32), 0 ≤ r.toInt → r.toInt ≤ 1 → Q r) : w_X1_looksBehind v_node v_tree_count v_tree_sort v_tree_value Q := by
  have q_t : (bz true).toInt = 1 := rfl
  have q_f : (bz false).toInt = 0 := rfl
  have q_0 : (0 : Int32).toInt = 0 := rfl
  have q_1 : (1 : Int32).toInt = 1 := rfl
  unfold w_X1_looksBehind
  refine ok_X10_sortOf (by omega) (by omega) (fun r8 f1 => ?_)
  have j_36 : ∀ (s0_36 : Int32), ((s0_36.toInt = 1 ∧ r8.toInt = 9) ∨ (s0_36.toInt = 0)) → w_X1_looksBehind_36 Q s0_36 := by
    intro s0_36 f2
    unfold w_X1_looksBehind_36
    refine ⟨i_01 (by omega) (by omega), ?_⟩
    exact hq s0_36 (by omega) (by omega)
  have j_35 : w_X1_looksBehind_35 Q := by
    unfold w_X1_looksBehind_35
    exact j_36 0 (by omega)
  refine ⟨fun c13 => ?_, fun c13 => ?_⟩
  · have f3 : r8.toInt ≠ 9 := i_ne (a := r8.toInt) (b := 9) rfl rfl c13
    exact j_35  
  · have f4 : r8.toInt = 9 := i_eq (a := r8.toInt) (b := 9) rfl rfl c13
    refine ok_X10_valueOf (by omega) (by omega) (fun r24 f5 => ?_)
    refine ⟨fun c28 => ?_, fun c28 => ?_⟩
    · have f6 : r24.toInt < 2 := i_lt (a := r24.toInt) (b := 2) rfl rfl c28
      exact j_35  
    · have f7 : 2 ≤ r24.toInt := i_nlt (a := r24.toInt) (b := 2) rfl rfl c28
      exact j_36 1 (by omega)
set_option maxHeartbeats 4000000 in
theorem ok_X1_enterCut {v_mode : Int32} {v_node : Int32} {v_place : Int32} {v_choiceCount : Int32} {v_trailCount : Int32} {v_base : Nat → Int32} {v_entry : Nat → Int32} {v_from : Nat → Int32} {v_choices : Nat → Int32} {nv_choices : Nat} {v_heights : Nat → Int32} {nv_heights : Nat} {v_tree_count : Int32} {v_tree_sort : Nat → Int32} {v_tree_end : Nat → Int32} {v_tree_value : Nat → Int32} {h4 : Nat} {h5 : Nat} {Q : Int32 → Int32 → Int32 → (Nat → Int32) → (Nat → Int32) → (Nat → Int32) → Nat → (Nat → Int32) → Nat → Nat → (Nat → Int32) → Nat → Prop} (a0 : (nv_choices : Int) ≤ 524288) (a1 : (nv_choices : Int) = (nv_heights : Int)) (a2 : 0 ≤ v_tree_count.toInt) (a3 : v_tree_count.toInt ≤ 256) (b0 : rp (fun k v => k < v ∧ v ≤ 256) v_tree_end 0 v_tree_count.toInt) (hq : ∀ (ov_mode : Int32) (ov_node : Int32) (ov_choiceCount : Int32) (ov_base : Nat → Int32) (ov_entry : Nat → Int32) (ov_from : Nat → Int32) (oh4 : Nat) (ov_choices : Nat → Int32) (onv_choices : Nat) (oh5 : Nat) (ov_heights : Nat → Int32) (onv_heights : Nat), v_node.toInt ≤ ov_node.toInt → v_choiceCount.toInt ≤ ov_choiceCount.toInt → 0 ≤ ov_mode.toInt → ov_mode.toInt ≤ 5 → (onv_choices : Int) ≤ 524288 → (onv_choices : Int) = (onv_heights : Int) → Q ov_mode ov_node ov_choiceCount ov_base ov_entry ov_from oh4 ov_choices onv_choices oh5 ov_heights onv_heights) : w_X1_enterCut v_mode v_node v_place v_choiceCount v_trailCount v_base v_entry v_from v_choices nv_choices v_heights nv_heights v_tree_count v_tree_sort v_tree_end v_tree_value h4 h5 Q := by
  have q_t : (bz true).toInt = 1 := rfl
  have q_f : (bz false).toInt = 0 := rfl
  have q_3 : (3 : Int32).toInt = 3 := rfl
  have q_5 : (5 : Int32).toInt = 5 := rfl
  unfold w_X1_enterCut
  refine ok_X1_markBase  (fun r1_0 r1_1 r1_2 => ?_)
  refine ok_X1_looksBehind (by omega) (by omega) (fun r5 f1 f2 => ?_)
  refine ⟨fun c8 => ?_, fun c8 => ?_⟩
  · have f3 : r5.toInt = 0 := i_eq (a := r5.toInt) (b := 0) rfl rfl c8
    refine ok_X10_sortOf (by omega) (by omega) (fun r25 f4 => ?_)
    have j_57 : ∀ (v_choiceCount_57 : Int32) (h4_57 : Nat) (v_choices_57 : Nat → Int32) (nv_choices_57 : Nat) (h5_57 : Nat) (v_heights_57 : Nat → Int32) (nv_heights_57 : Nat), (nv_choices_57 : Int) ≤ 524288 → (nv_choices_57 : Int) = (nv_heights_57 : Int) → v_choiceCount.toInt ≤ v_choiceCount_57.toInt → ((v_choiceCount_57.toInt = v_choiceCount.toInt) ∨ (v_choiceCount_57.toInt = v_choiceCount.toInt ∧ r25.toInt = 9) ∨ (r25.toInt = 9 ∧ v_choiceCount.toInt ≤ v_choiceCount_57.toInt)) → w_X1_enterCut_57 v_tree_count v_tree_end Q v_mode v_node v_choiceCount_57 r1_0 r1_1 r1_2 h4_57 v_choices_57 nv_choices_57 h5_57 v_heights_57 nv_heights_57 := by
      intro v_choiceCount_57 h4_57 v_choices_57 nv_choices_57 h5_57 v_heights_57 nv_heights_57 f5 f6 f7 f8
      unfold w_X1_enterCut_57
      refine ok_X1_enterPart (by omega) (by omega) (rp_mono b0 (by omega) (by omega)) (fun r58_0 r58_1 f9 f10 f11 => ?_)
      exact hq r58_0 r58_1 v_choiceCount_57 r1_0 r1_1 r1_2 h4_57 v_choices_57 nv_choices_57 h5_57 v_heights_57 nv_heights_57 (by omega) (by omega) (by omega) (by omega) (by omega) (by omega)
    refine ⟨fun c30 => ?_, fun c30 => ?_⟩
    · have f12 : r25.toInt ≠ 9 := i_ne (a := r25.toInt) (b := 9) rfl rfl c30
      exact j_57 v_choiceCount h4 v_choices nv_choices h5 v_heights nv_heights (by omega) (by omega) (by omega) (by omega)
    · have f13 : r25.toInt = 9 := i_eq (a := r25.toInt) (b := 9) rfl rfl c30
      refine ok_X10_valueOf (by omega) (by omega) (fun r41 f14 => ?_)
      refine ⟨fun c45 => ?_, fun c45 => ?_⟩
      · have f15 : r41.toInt ≠ 1 := i_ne (a := r41.toInt) (b := 1) rfl rfl c45
        exact j_57 v_choiceCount h4 v_choices nv_choices h5 v_heights nv_heights (by omega) (by omega) (by omega) (by omega)
      · have f16 : r41.toInt = 1 := i_eq (a := r41.toInt) (b := 1) rfl rfl c45
        refine ok_X1_keepChoice (by omega) (by omega) (fun r54_0 r54_1 r54_2 r54_3 r54_4 r54_5 r54_6 f17 f18 => ?_)
        exact j_57 r54_0 r54_1 r54_2 r54_3 r54_4 r54_5 r54_6 (by omega) (by omega) (by omega) (by omega)
  · have f19 : r5.toInt ≠ 0 := i_ne (a := r5.toInt) (b := 0) rfl rfl c8
    exact hq 5 v_node v_choiceCount r1_0 r1_1 r1_2 h4 v_choices nv_choices h5 v_heights nv_heights (by omega) (by omega) (by omega) (by omega) (by omega) (by omega)
set_option maxHeartbeats 4000000 in
theorem ok_X1_undo_v1 {p1 : Int32} {v_trailCount : Int32} {v_cells : Nat → Int32} {v_trail : Nat → Int32} {nv_trail : Nat} {Q : Int32 → (Nat → Int32) → Prop} (a0 : (nv_trail : Int) ≤ 524288) (hq : ∀ (ov_trailCount : Int32) (ov_cells : Nat → Int32), ov_trailCount.toInt ≤ v_trailCount.toInt → Q ov_trailCount ov_cells) : w_X1_undo_v1 p1 v_trailCount v_cells v_trail nv_trail Q := by
  have q_t : (bz true).toInt = 1 := rfl
  have q_f : (bz false).toInt = 0 := rfl
  unfold w_X1_undo_v1
  have j_0 : ∀ n_0 : Nat, ∀ (v_trailCount_0 : Int32) (v_cells_0 : Nat → Int32), v_trailCount_0.toInt ≤ v_trailCount.toInt → (v_trailCount_0.toInt + 2147483649).toNat < n_0 → w_X1_undo_v1_0 p1 v_trail nv_trail Q n_0 v_trailCount_0 v_cells_0 := by
    intro n_0
    induction n_0 with
    | zero =>
      intro v_trailCount_0 v_cells_0 f1 hm_0
      exfalso; omega
    | succ n_0 ih_0 =>
      intro v_trailCount_0 v_cells_0 f1 hm_0
      unfold w_X1_undo_v1_0
      unfold w_X1_undo_v1_0B
      have j_84 : ((v_trailCount_0.toInt ≤ p1.toInt) ∨ (p1.toInt + 1 ≤ v_trailCount_0.toInt ∧ v_trailCount_0.toInt ≤ 0) ∨ (p1.toInt + 1 ≤ v_trailCount_0.toInt ∧ 1 ≤ v_trailCount_0.toInt ∧ (nv_trail : Int) + 1 ≤ v_trailCount_0.toInt)) → w_X1_undo_v1_84 Q v_trailCount_0 v_cells_0 := by
        intro f2
        unfold w_X1_undo_v1_84
        exact hq v_trailCount_0 v_cells_0 (by omega)
      refine ⟨fun c5 => ?_, fun c5 => ?_⟩
      · have f3 : v_trailCount_0.toInt ≤ p1.toInt := i_le (a := v_trailCount_0.toInt) (b := p1.toInt) rfl rfl c5
        exact j_84  (by omega)
      · have f4 : p1.toInt < v_trailCount_0.toInt := i_nle (a := v_trailCount_0.toInt) (b := p1.toInt) rfl rfl c5
        refine ⟨fun c12 => ?_, fun c12 => ?_⟩
        · have f5 : v_trailCount_0.toInt ≤ 0 := i_le (a := v_trailCount_0.toInt) (b := 0) rfl rfl c12
          exact j_84  (by omega)
        · have f6 : 0 < v_trailCount_0.toInt := i_nle (a := v_trailCount_0.toInt) (b := 0) rfl rfl c12
          intro x23 ex23
          have f7 : x23.toInt = (nv_trail : Int) := i_len ex23 (by omega)
          refine ⟨fun c24 => ?_, fun c24 => ?_⟩
          · have f8 : x23.toInt < v_trailCount_0.toInt := i_lt (a := x23.toInt) (b := v_trailCount_0.toInt) rfl rfl c24
            exact j_84  (by omega)
          · have f9 : v_trailCount_0.toInt ≤ x23.toInt := i_nlt (a := x23.toInt) (b := v_trailCount_0.toInt) rfl rfl c24
            intro x33 ex33
            have f10 : x33.toInt = v_trailCount_0.toInt - 1 := i_sub (a := v_trailCount_0.toInt) (b := 1) ex33 rfl rfl (by omega) (by omega)
            refine ⟨i_in (by omega) (by omega), ?_⟩
            intro x45 ex45
            intro x48 ex48
            have j_81 : ∀ (v_cells_81 : Nat → Int32), w_X1_undo_v1_81 Q (w_X1_undo_v1_0 p1 v_trail nv_trail Q n_0) x33 v_cells_81 := by
              intro v_cells_81
              unfold w_X1_undo_v1_81
              exact ih_0 x33 v_cells_81  (by omega) (by have h8_0 := i_rng v_trailCount_0; have h8_1 := i_rng x33; omega)
            refine ⟨fun c51 => ?_, fun c51 => ?_⟩
            · have f11 : x48.toInt < 0 := i_lt (a := x48.toInt) (b := 0) rfl rfl c51
              exact j_81 v_cells_0 
            · have f12 : 0 ≤ x48.toInt := i_nlt (a := x48.toInt) (b := 0) rfl rfl c51
              refine ⟨fun c60 => ?_, fun c60 => ?_⟩
              · have f13 : 266 ≤ x48.toInt := i_le (a := 266) (b := x48.toInt) rfl rfl c60
                exact j_81 v_cells_0 
              · have f14 : x48.toInt < 266 := i_nle (a := 266) (b := x48.toInt) rfl rfl c60
                refine ⟨i_in (by omega) (by omega), ?_⟩
                intro x76 ex76
                have f15 : x76.toInt = x45.toInt := congrArg Int32.toInt (ex76.trans ex45.symm)
                intro x79 ex79
                refine ⟨i_in (by omega) (by omega), ?_⟩
                intro g80 eg80
                exact j_81 g80 
  exact ⟨(v_trailCount.toInt + 2147483649).toNat + 1, j_0   ((v_trailCount.toInt + 2147483649).toNat + 1) v_trailCount v_cells  (by omega) (by omega)⟩
set_option maxHeartbeats 4000000 in
theorem ok_X1_finish {v_wholeOnly : Bool} {v_mode : Int32} {v_place : Int32} {v_verdict : Int32} {v_subject_count : Int32} {Q : Int32 → Int32 → Prop} (a0 : 0 ≤ v_subject_count.toInt) (hq : ∀ (ov_mode : Int32) (ov_verdict : Int32), ((ov_mode.toInt = 2 ∧ ov_verdict.toInt = v_verdict.toInt) ∨ (ov_mode.toInt = v_mode.toInt ∧ ov_verdict.toInt = 1)) → Q ov_mode ov_verdict) : w_X1_finish v_wholeOnly v_mode v_place v_verdict v_subject_count Q := by
  have q_t : (bz true).toInt = 1 := rfl
  have q_f : (bz false).toInt = 0 := rfl
  have q_1 : (1 : Int32).toInt = 1 := rfl
  have q_2 : (2 : Int32).toInt = 2 := rfl
  unfold w_X1_finish
  have f1 : (0 ≤ (bz v_wholeOnly).toInt ∧ (bz v_wholeOnly).toInt ≤ 1) := i_bzr v_wholeOnly
  have j_34 : ∀ (v_mode_34 : Int32) (v_verdict_34 : Int32), ((v_mode_34.toInt = 2 ∧ v_verdict_34.toInt = v_verdict.toInt) ∨ (v_mode_34.toInt = v_mode.toInt ∧ v_verdict_34.toInt = 1)) → w_X1_finish_34 Q v_mode_34 v_verdict_34 := by
    intro v_mode_34 v_verdict_34 f2
    unfold w_X1_finish_34
    exact hq v_mode_34 v_verdict_34 (by omega)
  have j_29 : (((bz v_wholeOnly).toInt = 0) ∨ (v_place.toInt = v_subject_count.toInt)) → w_X1_finish_29 Q v_mode v_verdict := by
    intro f3
    unfold w_X1_finish_29
    exact j_34 v_mode 1 (by omega)
  refine ⟨fun c4 => ?_, fun c4 => ?_⟩
  · have f4 : (bz v_wholeOnly).toInt = 0 := i_eq (a := (bz v_wholeOnly).toInt) (b := 0) rfl rfl c4
    exact j_29  (by omega)
  · have f5 : (bz v_wholeOnly).toInt ≠ 0 := i_ne (a := (bz v_wholeOnly).toInt) (b := 0) rfl rfl c4
    refine ⟨fun c18 => ?_, fun c18 => ?_⟩
    · have f6 : v_place.toInt = v_subject_count.toInt := i_eq (a := v_place.toInt) (b := v_subject_count.toInt) rfl rfl c18
      exact j_29  (by omega)
    · have f7 : v_place.toInt ≠ v_subject_count.toInt := i_ne (a := v_place.toInt) (b := v_subject_count.toInt) rfl rfl c18
      exact j_34 2 v_verdict (by omega)
set_option maxHeartbeats 4000000 in
theorem ok_X1_cutToBase {v_node : Int32} {v_choiceCount : Int32} {v_base : Nat → Int32} {Q : Int32 → Prop} (hq : ∀ (ov_choiceCount : Int32), ov_choiceCount.toInt ≤ v_choiceCount.toInt → Q ov_choiceCount) : w_X1_cutToBase v_node v_choiceCount v_base Q := by
  have q_t : (bz true).toInt = 1 := rfl
  have q_f : (bz false).toInt = 0 := rfl
  unfold w_X1_cutToBase
  have j_37 : ∀ (v_choiceCount_37 : Int32), v_choiceCount_37.toInt ≤ v_choiceCount.toInt → ((v_choiceCount_37.toInt = v_choiceCount.toInt ∧ v_node.toInt + 1 ≤ 0) ∨ (v_choiceCount_37.toInt = v_choiceCount.toInt ∧ 0 ≤ v_node.toInt ∧ 256 ≤ v_node.toInt) ∨ (0 ≤ v_node.toInt ∧ v_node.toInt ≤ 255)) → w_X1_cutToBase_37 Q v_choiceCount_37 := by
    intro v_choiceCount_37 f1 f2
    unfold w_X1_cutToBase_37
    exact hq v_choiceCount_37 (by omega)
  refine ⟨fun c4 => ?_, fun c4 => ?_⟩
  · have f3 : v_node.toInt < 0 := i_lt (a := v_node.toInt) (b := 0) rfl rfl c4
    exact j_37 v_choiceCount (by omega) (by omega)
  · have f4 : 0 ≤ v_node.toInt := i_nlt (a := v_node.toInt) (b := 0) rfl rfl c4
    refine ⟨fun c14 => ?_, fun c14 => ?_⟩
    · have f5 : 256 ≤ v_node.toInt := i_le (a := 256) (b := v_node.toInt) rfl rfl c14
      exact j_37 v_choiceCount (by omega) (by omega)
    · have f6 : v_node.toInt < 256 := i_nle (a := 256) (b := v_node.toInt) rfl rfl c14
      refine ⟨i_in (by omega) (by omega), ?_⟩
      intro x30 ex30
      intro x31 ex31
      have f7 : ((x31.toInt = v_choiceCount.toInt ∧ v_choiceCount.toInt ≤ x30.toInt) ∨ (x31.toInt = x30.toInt ∧ x30.toInt ≤ v_choiceCount.toInt)) := by have h9 := i_min (a := x30.toInt) (b := v_choiceCount.toInt) ex31 rfl rfl; omega
      exact j_37 x31 (by omega) (by omega)
set_option maxHeartbeats 4000000 in
theorem ok_X1_entryOf {p1 : Int32} {v_entry : Nat → Int32} {Q : Int32 → Prop} (hq : ∀ (r : Int32), ((0 ≤ p1.toInt ∧ p1.toInt ≤ 255) ∨ (r.toInt = 0)) → Q r) : w_X1_entryOf p1 v_entry Q := by
  have q_t : (bz true).toInt = 1 := rfl
  have q_f : (bz false).toInt = 0 := rfl
  have q_0 : (0 : Int32).toInt = 0 := rfl
  unfold w_X1_entryOf
  have j_21 : ∀ (s0_21 : Int32), ((0 ≤ p1.toInt ∧ p1.toInt ≤ 255) ∨ (s0_21.toInt = 0)) → w_X1_entryOf_21 Q s0_21 := by
    intro s0_21 f1
    unfold w_X1_entryOf_21
    exact hq s0_21 (by omega)
  have j_20 : ((p1.toInt + 1 ≤ 0) ∨ (0 ≤ p1.toInt ∧ 256 ≤ p1.toInt)) → w_X1_entryOf_20 Q := by
    intro f2
    unfold w_X1_entryOf_20
    exact j_21 0 (by omega)
  refine ⟨fun c1 => ?_, fun c1 => ?_⟩
  · have f3 : p1.toInt < 0 := i_lt (a := p1.toInt) (b := 0) rfl rfl c1
    exact j_20  (by omega)
  · have f4 : 0 ≤ p1.toInt := i_nlt (a := p1.toInt) (b := 0) rfl rfl c1
    refine ⟨fun c8 => ?_, fun c8 => ?_⟩
    · have f5 : 256 ≤ p1.toInt := i_le (a := 256) (b := p1.toInt) rfl rfl c8
      exact j_20  (by omega)
    · have f6 : p1.toInt < 256 := i_nle (a := 256) (b := p1.toInt) rfl rfl c8
      refine ⟨i_in (by omega) (by omega), ?_⟩
      intro x16 ex16
      exact j_21 x16 (by omega)
set_option maxHeartbeats 4000000 in
theorem ok_X1_leaveLook {v_mode : Int32} {v_node : Int32} {v_place : Int32} {v_choiceCount : Int32} {v_base : Nat → Int32} {v_entry : Nat → Int32} {v_tree_count : Int32} {v_tree_sort : Nat → Int32} {v_tree_value : Nat → Int32} {Q : Int32 → Int32 → Int32 → Prop} (a0 : 0 ≤ v_tree_count.toInt) (a1 : v_tree_count.toInt ≤ 256) (hq : ∀ (ov_mode : Int32) (ov_place : Int32) (ov_choiceCount : Int32), ov_choiceCount.toInt ≤ v_choiceCount.toInt → ((ov_mode.toInt = 2 ∧ ov_place.toInt = v_place.toInt ∧ ov_choiceCount.toInt = v_choiceCount.toInt) ∨ (ov_choiceCount.toInt ≤ v_choiceCount.toInt)) → 1 ≤ ov_mode.toInt → ov_mode.toInt ≤ 2 → Q ov_mode ov_place ov_choiceCount) : w_X1_leaveLook v_mode v_node v_place v_choiceCount v_base v_entry v_tree_count v_tree_sort v_tree_value Q := by
  have q_t : (bz true).toInt = 1 := rfl
  have q_f : (bz false).toInt = 0 := rfl
  have q_1 : (1 : Int32).toInt = 1 := rfl
  have q_2 : (2 : Int32).toInt = 2 := rfl
  unfold w_X1_leaveLook
  refine ok_X10_valueOf (by omega) (by omega) (fun r8 f1 => ?_)
  refine ok_X1_looksBehind (by omega) (by omega) (fun r13 f2 f3 => ?_)
  have j_40 : w_X1_leaveLook_40 v_node v_base v_entry Q r8 v_mode v_place v_choiceCount := by
    unfold w_X1_leaveLook_40
    refine ok_X1_cutToBase  (fun r41_0 f4 => ?_)
    refine ok_X1_entryOf  (fun r50 f5 => ?_)
    have j_71 : ∀ (s0_71 : Int32), ((s0_71.toInt = 2) ∨ (s0_71.toInt = 1)) → w_X1_leaveLook_71 Q s0_71 v_mode r50 r41_0 := by
      intro s0_71 f6
      unfold w_X1_leaveLook_71
      exact hq s0_71 r50 r41_0 (by omega) (by omega) (by omega) (by omega)
    have j_66 : ((r8.toInt = 0) ∨ (r8.toInt = 2)) → w_X1_leaveLook_66 Q v_mode r50 r41_0 := by
      intro f7
      unfold w_X1_leaveLook_66
      exact j_71 1 (by omega)
    refine ⟨fun c58 => ?_, fun c58 => ?_⟩
    · have f8 : r8.toInt = 0 := i_eq (a := r8.toInt) (b := 0) rfl rfl c58
      exact j_66  (by omega)
    · have f9 : r8.toInt ≠ 0 := i_ne (a := r8.toInt) (b := 0) rfl rfl c58
      refine ⟨fun c63 => ?_, fun c63 => ?_⟩
      · have f10 : r8.toInt ≠ 2 := i_ne (a := r8.toInt) (b := 2) rfl rfl c63
        exact j_71 2 (by omega)
      · have f11 : r8.toInt = 2 := i_eq (a := r8.toInt) (b := 2) rfl rfl c63
        exact j_66  (by omega)
  refine ⟨fun c16 => ?_, fun c16 => ?_⟩
  · have f12 : r13.toInt = 0 := i_eq (a := r13.toInt) (b := 0) rfl rfl c16
    exact j_40  
  · have f13 : r13.toInt ≠ 0 := i_ne (a := r13.toInt) (b := 0) rfl rfl c16
    refine ok_X1_entryOf  (fun r28 f14 => ?_)
    refine ⟨fun c31 => ?_, fun c31 => ?_⟩
    · have f15 : v_place.toInt = r28.toInt := i_eq (a := v_place.toInt) (b := r28.toInt) rfl rfl c31
      exact j_40  
    · have f16 : v_place.toInt ≠ r28.toInt := i_ne (a := v_place.toInt) (b := r28.toInt) rfl rfl c31
      exact hq 2 v_place v_choiceCount (by omega) (by omega) (by omega) (by omega)
set_option maxHeartbeats 4000000 in
theorem ok_X1_endTurn {v_mode : Int32} {v_node : Int32} {v_place : Int32} {v_cells : Nat → Int32} {v_tree_count : Int32} {v_tree_low : Nat → Int32} {Q : Int32 → Prop} (a0 : 0 ≤ v_tree_count.toInt) (a1 : v_tree_count.toInt ≤ 256) (hq : ∀ (ov_mode : Int32), ((ov_mode.toInt = 2) ∨ (ov_mode.toInt = 3)) → Q ov_mode) : w_X1_endTurn v_mode v_node v_place v_cells v_tree_count v_tree_low Q := by
  have q_t : (bz true).toInt = 1 := rfl
  have q_f : (bz false).toInt = 0 := rfl
  have q_2 : (2 : Int32).toInt = 2 := rfl
  have q_3 : (3 : Int32).toInt = 3 := rfl
  unfold w_X1_endTurn
  refine ok_X1_cell  (fun r5 f1 => ?_)
  intro x11 ex11
  refine ok_X1_cell  (fun r18 f2 => ?_)
  intro x24 ex24
  refine ok_X10_lowOf (by omega) (by omega) (fun r36 f3 => ?_)
  have j_55 : ∀ (s0_55 : Int32), ((s0_55.toInt = 2) ∨ (s0_55.toInt = 3)) → w_X1_endTurn_55 Q s0_55 v_mode := by
    intro s0_55 f4
    unfold w_X1_endTurn_55
    exact hq s0_55 (by omega)
  have j_54 : w_X1_endTurn_54 Q v_mode := by
    unfold w_X1_endTurn_54
    exact j_55 3 (by omega)
  refine ⟨fun c39 => ?_, fun c39 => ?_⟩
  · have f5 : x11.toInt ≤ r36.toInt := i_le (a := x11.toInt) (b := r36.toInt) rfl rfl c39
    exact j_54  
  · have f6 : r36.toInt < x11.toInt := i_nle (a := x11.toInt) (b := r36.toInt) rfl rfl c39
    refine ⟨fun c47 => ?_, fun c47 => ?_⟩
    · have f7 : v_place.toInt ≠ x24.toInt := i_ne (a := v_place.toInt) (b := x24.toInt) rfl rfl c47
      exact j_54  
    · have f8 : v_place.toInt = x24.toInt := i_eq (a := v_place.toInt) (b := x24.toInt) rfl rfl c47
      exact j_55 2 (by omega)
set_option maxHeartbeats 4000000 in
theorem ok_X1_leavePartOfRow {p1 : Int32} {v_mode : Int32} {v_node : Int32} {v_tree_count : Int32} {v_tree_holder : Nat → Int32} {v_tree_end : Nat → Int32} {Q : Int32 → Int32 → Prop} (a0 : 0 ≤ v_tree_count.toInt) (a1 : v_tree_count.toInt ≤ 256) (b0 : rp (fun k v => k < v ∧ v ≤ 256) v_tree_end 0 v_tree_count.toInt) (b1 : rp (fun k v => v < k ∧ -1 ≤ v) v_tree_holder 0 v_tree_count.toInt) (hq : ∀ (ov_mode : Int32) (ov_node : Int32), Q ov_mode ov_node) : w_X1_leavePartOfRow p1 v_mode v_node v_tree_count v_tree_holder v_tree_end Q := by
  have q_t : (bz true).toInt = 1 := rfl
  have q_f : (bz false).toInt = 0 := rfl
  have q_0 : (0 : Int32).toInt = 0 := rfl
  unfold w_X1_leavePartOfRow
  refine ok_X10_nextOf (by omega) (by omega) (rp_mono b0 (by omega) (by omega)) (rp_mono b1 (by omega) (by omega)) (fun r5 f1 f2 f3 => ?_)
  have j_24 : ∀ (v_mode_24 : Int32) (v_node_24 : Int32), ((v_mode_24.toInt = v_mode.toInt ∧ v_node_24.toInt = v_node.toInt ∧ r5.toInt + 1 = 0) ∨ (v_mode_24.toInt = 0 ∧ v_node_24.toInt = r5.toInt)) → w_X1_leavePartOfRow_24 Q v_mode_24 v_node_24 := by
    intro v_mode_24 v_node_24 f4
    unfold w_X1_leavePartOfRow_24
    exact hq v_mode_24 v_node_24 
  refine ⟨fun c11 => ?_, fun c11 => ?_⟩
  · have f5 : r5.toInt = (-1) := i_eq (a := r5.toInt) (b := (-1)) rfl rfl c11
    exact j_24 v_mode v_node (by omega)
  · have f6 : r5.toInt ≠ (-1) := i_ne (a := r5.toInt) (b := (-1)) rfl rfl c11
    exact j_24 0 r5 (by omega)
set_option maxHeartbeats 4000000 in
theorem ok_X1_leave {v_wholeOnly : Bool} {v_mode : Int32} {v_node : Int32} {v_place : Int32} {v_verdict : Int32} {v_choiceCount : Int32} {v_trailCount : Int32} {v_cells : Nat → Int32} {v_base : Nat → Int32} {v_entry : Nat → Int32} {v_trail : Nat → Int32} {nv_trail : Nat} {v_tree_count : Int32} {v_tree_sort : Nat → Int32} {v_tree_holder : Nat → Int32} {v_tree_end : Nat → Int32} {v_tree_value : Nat → Int32} {v_tree_low : Nat → Int32} {v_subject_count : Int32} {h6 : Nat} {Q : Int32 → Int32 → Int32 → Int32 → Int32 → Int32 → (Nat → Int32) → Nat → (Nat → Int32) → Nat → Prop} (a0 : (nv_trail : Int) ≤ 524288) (a1 : 0 ≤ v_tree_count.toInt) (a2 : v_tree_count.toInt ≤ 256) (a3 : 0 ≤ v_subject_count.toInt) (b0 : rp (fun k v => k < v ∧ v ≤ 256) v_tree_end 0 v_tree_count.toInt) (b1 : rp (fun k v => v < k ∧ -1 ≤ v) v_tree_holder 0 v_tree_count.toInt) (hq : ∀ (ov_mode : Int32) (ov_node : Int32) (ov_place : Int32) (ov_verdict : Int32) (ov_choiceCount : Int32) (ov_trailCount : Int32) (ov_cells : Nat → Int32) (oh6 : Nat) (ov_trail : Nat → Int32) (onv_trail : Nat), ov_choiceCount.toInt ≤ v_choiceCount.toInt → v_trailCount.toInt ≤ ov_trailCount.toInt → ((ov_node.toInt = v_node.toInt ∧ ov_place.toInt = v_place.toInt ∧ ov_choiceCount.toInt = v_choiceCount.toInt ∧ ov_trailCount.toInt = v_trailCount.toInt ∧ (onv_trail : Int) = (nv_trail : Int)) ∨ (ov_verdict.toInt = v_verdict.toInt ∧ (onv_trail : Int) ≤ 524288 ∧ ov_choiceCount.toInt ≤ v_choiceCount.toInt ∧ v_trailCount.toInt ≤ ov_trailCount.toInt)) → Q ov_mode ov_node ov_place ov_verdict ov_choiceCount ov_trailCount ov_cells oh6 ov_trail onv_trail) : w_X1_leave v_wholeOnly v_mode v_node v_place v_verdict v_choiceCount v_trailCount v_cells v_base v_entry v_trail nv_trail v_tree_count v_tree_sort v_tree_holder v_tree_end v_tree_value v_tree_low v_subject_count h6 Q := by
  have q_t : (bz true).toInt = 1 := rfl
  have q_f : (bz false).toInt = 0 := rfl
  have q_256 : (256 : Int32).toInt = 256 := rfl
  unfold w_X1_leave
  refine ok_X10_holderOf (by omega) (by omega) (rp_mono b1 (by omega) (by omega)) (fun r10 f1 => ?_)
  refine ⟨fun c16 => ?_, fun c16 => ?_⟩
  · have f2 : r10.toInt ≠ (-1) := i_ne (a := r10.toInt) (b := (-1)) rfl rfl c16
    refine ok_X10_sortOf (by omega) (by omega) (fun r34 f3 => ?_)
    have j_140 : ∀ (v_mode_140 : Int32) (v_node_140 : Int32) (v_place_140 : Int32) (v_choiceCount_140 : Int32) (v_trailCount_140 : Int32) (v_cells_140 : Nat → Int32) (h6_140 : Nat) (v_trail_140 : Nat → Int32) (nv_trail_140 : Nat), (nv_trail_140 : Int) ≤ 524288 → v_choiceCount_140.toInt ≤ v_choiceCount.toInt → v_trailCount.toInt ≤ v_trailCount_140.toInt → w_X1_leave_140 Q v_mode_140 v_node_140 v_place_140 v_verdict v_choiceCount_140 v_trailCount_140 v_cells_140 h6_140 v_trail_140 nv_trail_140 := by
      intro v_mode_140 v_node_140 v_place_140 v_choiceCount_140 v_trailCount_140 v_cells_140 h6_140 v_trail_140 nv_trail_140 f4 f5 f6
      unfold w_X1_leave_140
      exact hq v_mode_140 v_node_140 v_place_140 v_verdict v_choiceCount_140 v_trailCount_140 v_cells_140 h6_140 v_trail_140 nv_trail_140 (by omega) (by omega) (by omega)
    refine ⟨fun c37_0 => ?_, fun c37_1 => ?_, fun c37_2 => ?_, fun c37_3 => ?_, fun c37_4 => ?_, ?_⟩
    · have f7 : r34.toInt = 5 := i_eq (a := r34.toInt) (b := 5) rfl rfl c37_0
      refine ok_X1_leavePartOfRow (by omega) (by omega) (rp_mono b0 (by omega) (by omega)) (rp_mono b1 (by omega) (by omega)) (fun r78_0 r78_1 => ?_)
      exact j_140 r78_0 r78_1 v_place v_choiceCount v_trailCount v_cells h6 v_trail nv_trail (by omega) (by omega) (by omega)
    · have f8 : r34.toInt = 7 := i_eq (a := r34.toInt) (b := 7) rfl rfl c37_1
      refine ok_X1_endTurn (by omega) (by omega) (fun r85_0 f9 => ?_)
      exact j_140 r85_0 r10 v_place v_choiceCount v_trailCount v_cells h6 v_trail nv_trail (by omega) (by omega) (by omega)
    · have f10 : r34.toInt = 8 := i_eq (a := r34.toInt) (b := 8) rfl rfl c37_2
      refine ok_X10_valueOf (by omega) (by omega) (fun r100 f11 => ?_)
      intro x103 ex103
      refine ok_X1_cell  (fun r106 f12 => ?_)
      intro x112 ex112
      intro x117 ex117
      intro x119 ex119
      refine ok_X1_setCell (by omega) (fun r120_0 r120_1 r120_2 r120_3 r120_4 f13 f14 => ?_)
      exact j_140 v_mode r10 v_place v_choiceCount r120_0 r120_1 r120_2 r120_3 r120_4 (by omega) (by omega) (by omega)
    · have f15 : r34.toInt = 9 := i_eq (a := r34.toInt) (b := 9) rfl rfl c37_3
      refine ok_X1_leaveLook (by omega) (by omega) (fun r127_0 r127_1 r127_2 f16 f17 f18 f19 => ?_)
      exact j_140 r127_0 r10 r127_1 r127_2 v_trailCount v_cells h6 v_trail nv_trail (by omega) (by omega) (by omega)
    · have f20 : r34.toInt = 10 := i_eq (a := r34.toInt) (b := 10) rfl rfl c37_4
      refine ok_X1_cutToBase  (fun r134_0 f21 => ?_)
      exact j_140 v_mode r10 v_place r134_0 v_trailCount v_cells h6 v_trail nv_trail (by omega) (by omega) (by omega)
    · intro c37_0 c37_1 c37_2 c37_3 c37_4
      have f22 : r34.toInt ≠ 5 := i_ne (a := r34.toInt) (b := 5) rfl rfl c37_0
      have f23 : r34.toInt ≠ 7 := i_ne (a := r34.toInt) (b := 7) rfl rfl c37_1
      have f24 : r34.toInt ≠ 8 := i_ne (a := r34.toInt) (b := 8) rfl rfl c37_2
      have f25 : r34.toInt ≠ 9 := i_ne (a := r34.toInt) (b := 9) rfl rfl c37_3
      have f26 : r34.toInt ≠ 10 := i_ne (a := r34.toInt) (b := 10) rfl rfl c37_4
      exact j_140 v_mode r10 v_place v_choiceCount v_trailCount v_cells h6 v_trail nv_trail (by omega) (by omega) (by omega)
  · have f27 : r10.toInt = (-1) := i_eq (a := r10.toInt) (b := (-1)) rfl rfl c16
    refine ok_X1_finish (by omega) (fun r20_0 r20_1 f28 => ?_)
    exact hq r20_0 v_node v_place r20_1 v_choiceCount v_trailCount v_cells h6 v_trail nv_trail (by omega) (by omega) (by omega)
set_option maxHeartbeats 4000000 in
theorem ok_X1_captureBegin {p1 : Int32} {v_cells : Nat → Int32} {Q : Int32 → Prop} (hq : ∀ (r : Int32), Q r) : w_X1_captureBegin p1 v_cells Q := by
  have q_t : (bz true).toInt = 1 := rfl
  have q_f : (bz false).toInt = 0 := rfl
  have q_m1 : ((-1) : Int32).toInt = (-1) := rfl
  unfold w_X1_captureBegin
  intro x5 ex5
  refine ok_X1_cell  (fun r6 f1 => ?_)
  have j_25 : ∀ (s0_25 : Int32), w_X1_captureBegin_25 Q s0_25 := by
    intro s0_25
    unfold w_X1_captureBegin_25
    exact hq s0_25 
  refine ⟨fun c11 => ?_, fun c11 => ?_⟩
  · have f2 : r6.toInt ≠ 0 := i_ne (a := r6.toInt) (b := 0) rfl rfl c11
    intro x20 ex20
    intro x24 ex24
    exact j_25 x24 
  · have f3 : r6.toInt = 0 := i_eq (a := r6.toInt) (b := 0) rfl rfl c11
    exact j_25 (-1) 
set_option maxHeartbeats 4000000 in
theorem ok_X1_captureEnd {p1 : Int32} {v_cells : Nat → Int32} {Q : Int32 → Prop} (hq : ∀ (r : Int32), Q r) : w_X1_captureEnd p1 v_cells Q := by
  have q_t : (bz true).toInt = 1 := rfl
  have q_f : (bz false).toInt = 0 := rfl
  have q_m1 : ((-1) : Int32).toInt = (-1) := rfl
  unfold w_X1_captureEnd
  intro x5 ex5
  refine ok_X1_cell  (fun r6 f1 => ?_)
  have j_25 : ∀ (s0_25 : Int32), w_X1_captureEnd_25 Q s0_25 := by
    intro s0_25
    unfold w_X1_captureEnd_25
    exact hq s0_25 
  refine ⟨fun c11 => ?_, fun c11 => ?_⟩
  · have f2 : r6.toInt ≠ 0 := i_ne (a := r6.toInt) (b := 0) rfl rfl c11
    intro x20 ex20
    intro x24 ex24
    exact j_25 x24 
  · have f3 : r6.toInt = 0 := i_eq (a := r6.toInt) (b := 0) rfl rfl c11
    exact j_25 (-1) 
set_option maxHeartbeats 4000000 in
theorem ok_X1_askBack {v_mode : Int32} {v_node : Int32} {v_place : Int32} {v_cells : Nat → Int32} {v_tree_count : Int32} {v_tree_value : Nat → Int32} {v_tree_withinCase : Nat → Bool} {v_subject_count : Int32} {v_subject_items : Nat → Int32} {nv_subject_items : Nat} {Q : Int32 → Int32 → Prop} (a0 : 0 ≤ v_tree_count.toInt) (a1 : v_tree_count.toInt ≤ 256) (a2 : 0 ≤ v_subject_count.toInt) (a3 : v_subject_count.toInt ≤ (nv_subject_items : Int)) (a4 : (nv_subject_items : Int) ≤ 1000) (hq : ∀ (ov_mode : Int32) (ov_place : Int32), 0 ≤ ov_mode.toInt + 1 → 0 ≤ ov_mode.toInt → 1 ≤ ov_mode.toInt → ov_mode.toInt ≤ 2 → ov_mode.toInt ≤ 3 → Q ov_mode ov_place) : w_X1_askBack v_mode v_node v_place v_cells v_tree_count v_tree_value v_tree_withinCase v_subject_count v_subject_items nv_subject_items Q := by
  have q_t : (bz true).toInt = 1 := rfl
  have q_f : (bz false).toInt = 0 := rfl
  have q_0 : (0 : Int32).toInt = 0 := rfl
  have q_1 : (1 : Int32).toInt = 1 := rfl
  have q_2 : (2 : Int32).toInt = 2 := rfl
  unfold w_X1_askBack
  refine ok_X10_valueOf (by omega) (by omega) (fun r8 f1 => ?_)
  refine ok_X1_captureBegin  (fun r14 => ?_)
  refine ok_X1_captureEnd  (fun r20 => ?_)
  intro x24 ex24
  have j_53 : ∀ (s0_53 : Int32), ((s0_53.toInt = 1) ∨ (s0_53.toInt = 2)) → w_X1_askBack_53 v_node v_tree_count v_tree_withinCase v_subject_count v_subject_items nv_subject_items Q s0_53 r14 x24 v_mode v_place := by
    intro s0_53 f2
    unfold w_X1_askBack_53
    have j_59 : ∀ n_59 : Nat, ∀ (l4_59 : Int32) (v_mode_59 : Int32), 0 ≤ l4_59.toInt → v_mode_59.toInt ≤ 2 → s0_53.toInt ≤ v_mode_59.toInt → ((-1) * l4_59.toInt + 2147483648).toNat < n_59 → w_X1_askBack_59 v_node v_tree_count v_tree_withinCase v_subject_count v_subject_items nv_subject_items Q r14 x24 v_place n_59 l4_59 v_mode_59 := by
      intro n_59
      induction n_59 with
      | zero =>
        intro l4_59 v_mode_59 f3 f4 f5 hm_59
        exfalso; omega
      | succ n_59 ih_59 =>
        intro l4_59 v_mode_59 f3 f4 f5 hm_59
        unfold w_X1_askBack_59
        unfold w_X1_askBack_59B
        have j_144 : ((x24.toInt ≤ l4_59.toInt) ∨ (l4_59.toInt + 1 ≤ x24.toInt)) → w_X1_askBack_144 Q x24 v_mode_59 v_place := by
          intro f6
          unfold w_X1_askBack_144
          have j_162 : ∀ (s0_162 : Int32), ((s0_162.toInt = 0) ∨ (s0_162.toInt = x24.toInt ∧ v_mode_59.toInt = 1)) → w_X1_askBack_162 Q s0_162 v_place v_mode_59 v_place := by
            intro s0_162 f7
            unfold w_X1_askBack_162
            intro x162 ex162
            exact hq v_mode_59 x162 (by omega) (by omega) (by omega) (by omega) (by omega)
          refine ⟨fun c154 => ?_, fun c154 => ?_⟩
          · have f8 : v_mode_59.toInt ≠ 1 := i_ne (a := v_mode_59.toInt) (b := 1) rfl rfl c154
            exact j_162 0 (by omega)
          · have f9 : v_mode_59.toInt = 1 := i_eq (a := v_mode_59.toInt) (b := 1) rfl rfl c154
            exact j_162 x24 (by omega)
        refine ⟨fun c62 => ?_, fun c62 => ?_⟩
        · have f10 : x24.toInt ≤ l4_59.toInt := i_le (a := x24.toInt) (b := l4_59.toInt) rfl rfl c62
          exact j_144  (by omega)
        · have f11 : l4_59.toInt < x24.toInt := i_nle (a := x24.toInt) (b := l4_59.toInt) rfl rfl c62
          refine ⟨fun c70 => ?_, fun c70 => ?_⟩
          · have f12 : v_mode_59.toInt ≠ 1 := i_ne (a := v_mode_59.toInt) (b := 1) rfl rfl c70
            exact j_144  (by omega)
          · have f13 : v_mode_59.toInt = 1 := i_eq (a := v_mode_59.toInt) (b := 1) rfl rfl c70
            intro x83 ex83
            refine ok_X7_at (by omega) (by omega) (by omega) (fun r84 f14 => ?_)
            intro x96 ex96
            refine ok_X7_at (by omega) (by omega) (by omega) (fun r97 f15 => ?_)
            have j_138 : ∀ (v_mode_138 : Int32), v_mode_59.toInt ≤ v_mode_138.toInt → v_mode_138.toInt ≤ v_mode_59.toInt + 1 → ((v_mode_138.toInt = v_mode_59.toInt ∧ r84.toInt = r97.toInt) ∨ (v_mode_138.toInt = v_mode_59.toInt) ∨ (v_mode_138.toInt = 2)) → w_X1_askBack_138 Q (w_X1_askBack_59 v_node v_tree_count v_tree_withinCase v_subject_count v_subject_items nv_subject_items Q r14 x24 v_place n_59) l4_59 v_mode_138 := by
              intro v_mode_138 f16 f17 f18
              unfold w_X1_askBack_138
              intro x138 ex138
              have f19 : x138.toInt = l4_59.toInt + 1 := i_add (a := l4_59.toInt) (b := 1) ex138 rfl rfl (by omega) (by have h8_0 := i_rng l4_59; have h8_1 := i_rng x24; omega)
              exact ih_59 x138 v_mode_138  (by omega) (by omega) (by omega) (by have h8_0 := i_rng l4_59; have h8_1 := i_rng x138; omega)
            refine ⟨fun c106 => ?_, fun c106 => ?_⟩
            · have f20 : r84.toInt = r97.toInt := i_eq (a := r84.toInt) (b := r97.toInt) rfl rfl c106
              exact j_138 v_mode_59 (by omega) (by omega) (by omega)
            · have f21 : r84.toInt ≠ r97.toInt := i_ne (a := r84.toInt) (b := r97.toInt) rfl rfl c106
              refine ok_X10_isWithinCase (by omega) (by omega) (fun r117 f22 => ?_)
              have j_133 : w_X1_askBack_133 Q (w_X1_askBack_59 v_node v_tree_count v_tree_withinCase v_subject_count v_subject_items nv_subject_items Q r14 x24 v_place n_59) l4_59 v_mode_59 := by
                unfold w_X1_askBack_133
                exact j_138 2 (by omega) (by omega) (by omega)
              refine ⟨fun c120 => ?_, fun c120 => ?_⟩
              · have f23 : r117.toInt = 0 := i_eq (a := r117.toInt) (b := 0) rfl rfl c120
                exact j_133  
              · have f24 : r117.toInt ≠ 0 := i_ne (a := r117.toInt) (b := 0) rfl rfl c120
                refine ok_X11_otherCase  (fun r125 => ?_)
                refine ⟨fun c130 => ?_, fun c130 => ?_⟩
                · have f25 : r125.toInt = r97.toInt := i_eq (a := r125.toInt) (b := r97.toInt) rfl rfl c130
                  exact j_138 v_mode_59 (by omega) (by omega) (by omega)
                · have f26 : r125.toInt ≠ r97.toInt := i_ne (a := r125.toInt) (b := r97.toInt) rfl rfl c130
                  exact j_133  
    exact ⟨(2147483648 : Int).toNat + 1, j_59   ((2147483648 : Int).toNat + 1) 0 s0_53  (by omega) (by omega) (by omega) (by omega)⟩
  have j_48 : w_X1_askBack_48 v_node v_tree_count v_tree_withinCase v_subject_count v_subject_items nv_subject_items Q r14 x24 v_mode v_place := by
    unfold w_X1_askBack_48
    exact j_53 2 (by omega)
  refine ⟨fun c29 => ?_, fun c29 => ?_⟩
  · have f27 : r14.toInt = (-1) := i_eq (a := r14.toInt) (b := (-1)) rfl rfl c29
    exact j_48  
  · have f28 : r14.toInt ≠ (-1) := i_ne (a := r14.toInt) (b := (-1)) rfl rfl c29
    intro x37 ex37
    refine ⟨fun c45 => ?_, fun c45 => ?_⟩
    · have f29 : x37.toInt ≤ v_subject_count.toInt := i_le (a := x37.toInt) (b := v_subject_count.toInt) rfl rfl c45
      exact j_53 1 (by omega)
    · have f30 : v_subject_count.toInt < x37.toInt := i_nle (a := x37.toInt) (b := v_subject_count.toInt) rfl rfl c45
      exact j_48  
set_option maxHeartbeats 4000000 in
theorem ok_X1_askEdge {v_mode : Int32} {v_node : Int32} {v_place : Int32} {v_tree_count : Int32} {v_tree_value : Nat → Int32} {v_subject_count : Int32} {v_subject_items : Nat → Int32} {nv_subject_items : Nat} {Q : Int32 → Prop} (a0 : 0 ≤ v_tree_count.toInt) (a1 : v_tree_count.toInt ≤ 256) (a2 : 0 ≤ v_subject_count.toInt) (a3 : v_subject_count.toInt ≤ (nv_subject_items : Int)) (a4 : (nv_subject_items : Int) ≤ 1000) (hq : ∀ (ov_mode : Int32), 1 ≤ ov_mode.toInt → ov_mode.toInt ≤ 2 → Q ov_mode) : w_X1_askEdge v_mode v_node v_place v_tree_count v_tree_value v_subject_count v_subject_items nv_subject_items Q := by
  have q_t : (bz true).toInt = 1 := rfl
  have q_f : (bz false).toInt = 0 := rfl
  have q_1 : (1 : Int32).toInt = 1 := rfl
  have q_2 : (2 : Int32).toInt = 2 := rfl
  unfold w_X1_askEdge
  refine ok_X10_valueOf (by omega) (by omega) (fun r9 f1 => ?_)
  refine ok_X11_edgeHolds (by omega) (by omega) (by omega) (fun r20 f2 f3 => ?_)
  have j_31 : ∀ (s0_31 : Int32), ((s0_31.toInt = 2 ∧ r20.toInt = 0) ∨ (s0_31.toInt = 1)) → w_X1_askEdge_31 Q s0_31 v_mode := by
    intro s0_31 f4
    unfold w_X1_askEdge_31
    exact hq s0_31 (by omega) (by omega)
  refine ⟨fun c23 => ?_, fun c23 => ?_⟩
  · have f5 : r20.toInt = 0 := i_eq (a := r20.toInt) (b := 0) rfl rfl c23
    exact j_31 2 (by omega)
  · have f6 : r20.toInt ≠ 0 := i_ne (a := r20.toInt) (b := 0) rfl rfl c23
    exact j_31 1 (by omega)
set_option maxHeartbeats 4000000 in
theorem ok_X1_askSign {v_mode : Int32} {v_node : Int32} {v_place : Int32} {v_tree_count : Int32} {v_tree_ranges : Int32} {v_tree_sort : Nat → Int32} {v_tree_value : Nat → Int32} {v_tree_low : Nat → Int32} {v_tree_high : Nat → Int32} {v_tree_withinCase : Nat → Bool} {v_tree_rangeBegin : Nat → Int32} {v_tree_rangeEnd : Nat → Int32} {v_subject_count : Int32} {v_subject_items : Nat → Int32} {nv_subject_items : Nat} {Q : Int32 → Int32 → Prop} (a0 : 0 ≤ v_tree_count.toInt) (a1 : v_tree_count.toInt ≤ 256) (a2 : 0 ≤ v_tree_ranges.toInt) (a3 : v_tree_ranges.toInt ≤ 512) (a4 : 0 ≤ v_subject_count.toInt) (a5 : v_subject_count.toInt ≤ (nv_subject_items : Int)) (a6 : (nv_subject_items : Int) ≤ 1000) (hq : ∀ (ov_mode : Int32) (ov_place : Int32), 1 ≤ ov_mode.toInt → ov_mode.toInt ≤ 2 → Q ov_mode ov_place) : w_X1_askSign v_mode v_node v_place v_tree_count v_tree_ranges v_tree_sort v_tree_value v_tree_low v_tree_high v_tree_withinCase v_tree_rangeBegin v_tree_rangeEnd v_subject_count v_subject_items nv_subject_items Q := by
  have q_t : (bz true).toInt = 1 := rfl
  have q_f : (bz false).toInt = 0 := rfl
  have q_0 : (0 : Int32).toInt = 0 := rfl
  have q_1 : (1 : Int32).toInt = 1 := rfl
  have q_2 : (2 : Int32).toInt = 2 := rfl
  unfold w_X1_askSign
  have j_44 : ∀ (s0_44 : Int32), ((s0_44.toInt = 1 ∧ v_place.toInt + 1 ≤ v_subject_count.toInt) ∨ (s0_44.toInt = 0)) → w_X1_askSign_44 Q s0_44 v_mode v_place := by
    intro s0_44 f1
    unfold w_X1_askSign_44
    have j_59 : ∀ (s0_59 : Int32), ((s0_59.toInt = 0 ∧ s0_44.toInt = 0) ∨ (s0_59.toInt = 1)) → w_X1_askSign_59 Q s0_59 v_place s0_44 v_mode v_place := by
      intro s0_59 f2
      unfold w_X1_askSign_59
      intro x59 ex59
      have j_73 : ∀ (s0_73 : Int32), ((s0_73.toInt = 2 ∧ s0_44.toInt = 0) ∨ (s0_73.toInt = 1)) → w_X1_askSign_73 Q s0_73 v_mode x59 := by
        intro s0_73 f3
        unfold w_X1_askSign_73
        exact hq s0_73 x59 (by omega) (by omega)
      refine ⟨fun c65 => ?_, fun c65 => ?_⟩
      · have f4 : s0_44.toInt = 0 := i_eq (a := s0_44.toInt) (b := 0) rfl rfl c65
        exact j_73 2 (by omega)
      · have f5 : s0_44.toInt ≠ 0 := i_ne (a := s0_44.toInt) (b := 0) rfl rfl c65
        exact j_73 1 (by omega)
    refine ⟨fun c51 => ?_, fun c51 => ?_⟩
    · have f6 : s0_44.toInt = 0 := i_eq (a := s0_44.toInt) (b := 0) rfl rfl c51
      exact j_59 0 (by omega)
    · have f7 : s0_44.toInt ≠ 0 := i_ne (a := s0_44.toInt) (b := 0) rfl rfl c51
      exact j_59 1 (by omega)
  have j_43 : ((v_subject_count.toInt ≤ v_place.toInt) ∨ (v_place.toInt + 1 ≤ v_subject_count.toInt)) → w_X1_askSign_43 Q v_mode v_place := by
    intro f8
    unfold w_X1_askSign_43
    exact j_44 0 (by omega)
  refine ⟨fun c11 => ?_, fun c11 => ?_⟩
  · have f9 : v_subject_count.toInt ≤ v_place.toInt := i_le (a := v_subject_count.toInt) (b := v_place.toInt) rfl rfl c11
    exact j_43  (by omega)
  · have f10 : v_place.toInt < v_subject_count.toInt := i_nle (a := v_subject_count.toInt) (b := v_place.toInt) rfl rfl c11
    refine ok_X7_at (by omega) (by omega) (by omega) (fun r30 f11 => ?_)
    refine ok_X10_takes (by omega) (by omega) (by omega) (by omega) (fun r33 f12 f13 => ?_)
    refine ⟨fun c36 => ?_, fun c36 => ?_⟩
    · have f14 : r33.toInt = 0 := i_eq (a := r33.toInt) (b := 0) rfl rfl c36
      exact j_43  (by omega)
    · have f15 : r33.toInt ≠ 0 := i_ne (a := r33.toInt) (b := 0) rfl rfl c36
      exact j_44 1 (by omega)
set_option maxHeartbeats 4000000 in
theorem ok_X1_enter {v_steps : Int32} {v_mode : Int32} {v_node : Int32} {v_place : Int32} {v_limit : Int32} {v_verdict : Int32} {v_choiceCount : Int32} {v_trailCount : Int32} {v_cells : Nat → Int32} {v_base : Nat → Int32} {v_entry : Nat → Int32} {v_from : Nat → Int32} {v_choices : Nat → Int32} {nv_choices : Nat} {v_heights : Nat → Int32} {nv_heights : Nat} {v_trail : Nat → Int32} {nv_trail : Nat} {v_tree_count : Int32} {v_tree_ranges : Int32} {v_tree_sort : Nat → Int32} {v_tree_holder : Nat → Int32} {v_tree_end : Nat → Int32} {v_tree_value : Nat → Int32} {v_tree_low : Nat → Int32} {v_tree_high : Nat → Int32} {v_tree_withinCase : Nat → Bool} {v_tree_rangeBegin : Nat → Int32} {v_tree_rangeEnd : Nat → Int32} {v_subject_count : Int32} {v_subject_items : Nat → Int32} {nv_subject_items : Nat} {h5 : Nat} {h6 : Nat} {h7 : Nat} {Q : Int32 → Int32 → Int32 → Int32 → Int32 → Int32 → Int32 → (Nat → Int32) → (Nat → Int32) → (Nat → Int32) → (Nat → Int32) → Nat → (Nat → Int32) → Nat → Nat → (Nat → Int32) → Nat → Nat → (Nat → Int32) → Nat → Prop} (a0 : (nv_choices : Int) ≤ 524288) (a1 : (nv_choices : Int) = (nv_heights : Int)) (a2 : (nv_trail : Int) ≤ 524288) (a3 : 0 ≤ v_tree_count.toInt) (a4 : v_tree_count.toInt ≤ 256) (a5 : 0 ≤ v_tree_ranges.toInt) (a6 : v_tree_ranges.toInt ≤ 512) (a7 : 0 ≤ v_subject_count.toInt) (a8 : v_subject_count.toInt ≤ (nv_subject_items : Int)) (a9 : (nv_subject_items : Int) ≤ 1000) (b0 : rp (fun k v => k < v ∧ v ≤ 256) v_tree_end 0 v_tree_count.toInt) (b1 : rp (fun k v => v < k ∧ -1 ≤ v) v_tree_holder 0 v_tree_count.toInt) (hq : ∀ (ov_steps : Int32) (ov_mode : Int32) (ov_node : Int32) (ov_place : Int32) (ov_verdict : Int32) (ov_choiceCount : Int32) (ov_trailCount : Int32) (ov_cells : Nat → Int32) (ov_base : Nat → Int32) (ov_entry : Nat → Int32) (ov_from : Nat → Int32) (oh5 : Nat) (ov_choices : Nat → Int32) (onv_choices : Nat) (oh6 : Nat) (ov_heights : Nat → Int32) (onv_heights : Nat) (oh7 : Nat) (ov_trail : Nat → Int32) (onv_trail : Nat), (onv_choices : Int) ≤ 524288 → (onv_choices : Int) = (onv_heights : Int) → (onv_trail : Int) ≤ 524288 → v_steps.toInt ≤ ov_steps.toInt → v_choiceCount.toInt ≤ ov_choiceCount.toInt → v_trailCount.toInt ≤ ov_trailCount.toInt → Q ov_steps ov_mode ov_node ov_place ov_verdict ov_choiceCount ov_trailCount ov_cells ov_base ov_entry ov_from oh5 ov_choices onv_choices oh6 ov_heights onv_heights oh7 ov_trail onv_trail) : w_X1_enter v_steps v_mode v_node v_place v_limit v_verdict v_choiceCount v_trailCount v_cells v_base v_entry v_from v_choices nv_choices v_heights nv_heights v_trail nv_trail v_tree_count v_tree_ranges v_tree_sort v_tree_holder v_tree_end v_tree_value v_tree_low v_tree_high v_tree_withinCase v_tree_rangeBegin v_tree_rangeEnd v_subject_count v_subject_items nv_subject_items h5 h6 h7 Q := by
  have q_t : (bz true).toInt = 1 := rfl
  have q_f : (bz false).toInt = 0 := rfl
  unfold w_X1_enter
  refine ok_X10_sortOf (by omega) (by omega) (fun r8 f1 => ?_)
  have j_179 : ∀ (v_steps_179 : Int32) (v_mode_179 : Int32) (v_node_179 : Int32) (v_place_179 : Int32) (v_verdict_179 : Int32) (v_choiceCount_179 : Int32) (v_trailCount_179 : Int32) (v_cells_179 : Nat → Int32) (v_base_179 : Nat → Int32) (v_entry_179 : Nat → Int32) (v_from_179 : Nat → Int32) (h5_179 : Nat) (v_choices_179 : Nat → Int32) (nv_choices_179 : Nat) (h6_179 : Nat) (v_heights_179 : Nat → Int32) (nv_heights_179 : Nat) (h7_179 : Nat) (v_trail_179 : Nat → Int32) (nv_trail_179 : Nat), (nv_choices_179 : Int) ≤ 524288 → (nv_choices_179 : Int) = (nv_heights_179 : Int) → (nv_trail_179 : Int) ≤ 524288 → v_steps.toInt ≤ v_steps_179.toInt → v_choiceCount.toInt ≤ v_choiceCount_179.toInt → v_trailCount.toInt ≤ v_trailCount_179.toInt → w_X1_enter_179 Q v_steps_179 v_mode_179 v_node_179 v_place_179 v_verdict_179 v_choiceCount_179 v_trailCount_179 v_cells_179 v_base_179 v_entry_179 v_from_179 h5_179 v_choices_179 nv_choices_179 h6_179 v_heights_179 nv_heights_179 h7_179 v_trail_179 nv_trail_179 := by
    intro v_steps_179 v_mode_179 v_node_179 v_place_179 v_verdict_179 v_choiceCount_179 v_trailCount_179 v_cells_179 v_base_179 v_entry_179 v_from_179 h5_179 v_choices_179 nv_choices_179 h6_179 v_heights_179 nv_heights_179 h7_179 v_trail_179 nv_trail_179 f2 f3 f4 f5 f6 f7
    unfold w_X1_enter_179
    exact hq v_steps_179 v_mode_179 v_node_179 v_place_179 v_verdict_179 v_choiceCount_179 v_trailCount_179 v_cells_179 v_base_179 v_entry_179 v_from_179 h5_179 v_choices_179 nv_choices_179 h6_179 v_heights_179 nv_heights_179 h7_179 v_trail_179 nv_trail_179 (by omega) (by omega) (by omega) (by omega) (by omega) (by omega)
  have j_68 : ((r8.toInt = 0) ∨ (r8.toInt = 1) ∨ (r8.toInt = 2)) → w_X1_enter_68 v_limit v_tree_count v_tree_ranges v_tree_sort v_tree_value v_tree_low v_tree_high v_tree_withinCase v_tree_rangeBegin v_tree_rangeEnd v_subject_count v_subject_items nv_subject_items Q v_steps v_mode v_node v_place v_verdict v_choiceCount v_trailCount v_cells v_base v_entry v_from h5 v_choices nv_choices h6 v_heights nv_heights h7 v_trail nv_trail := by
    intro f8
    unfold w_X1_enter_68
    refine ok_X1_step  (fun r69 r69_0 r69_1 f9 f10 => ?_)
    refine ⟨fun c72 => ?_, fun c72 => ?_⟩
    · have f11 : r69.toInt = 0 := i_eq (a := r69.toInt) (b := 0) rfl rfl c72
      exact j_179 r69_0 v_mode v_node v_place r69_1 v_choiceCount v_trailCount v_cells v_base v_entry v_from h5 v_choices nv_choices h6 v_heights nv_heights h7 v_trail nv_trail (by omega) (by omega) (by omega) (by omega) (by omega) (by omega)
    · have f12 : r69.toInt ≠ 0 := i_ne (a := r69.toInt) (b := 0) rfl rfl c72
      refine ok_X1_askSign (by omega) (by omega) (by omega) (by omega) (by omega) (by omega) (by omega) (fun r76_0 r76_1 f13 f14 => ?_)
      exact j_179 r69_0 r76_0 v_node r76_1 r69_1 v_choiceCount v_trailCount v_cells v_base v_entry v_from h5 v_choices nv_choices h6 v_heights nv_heights h7 v_trail nv_trail (by omega) (by omega) (by omega) (by omega) (by omega) (by omega)
  have j_142 : ((r8.toInt = 9) ∨ (r8.toInt = 10)) → w_X1_enter_142 v_limit v_tree_count v_tree_sort v_tree_end v_tree_value Q v_steps v_mode v_node v_place v_verdict v_choiceCount v_trailCount v_cells v_base v_entry v_from h5 v_choices nv_choices h6 v_heights nv_heights h7 v_trail nv_trail := by
    intro f15
    unfold w_X1_enter_142
    refine ok_X1_step  (fun r143 r143_0 r143_1 f16 f17 => ?_)
    refine ⟨fun c146 => ?_, fun c146 => ?_⟩
    · have f18 : r143.toInt = 0 := i_eq (a := r143.toInt) (b := 0) rfl rfl c146
      exact j_179 r143_0 v_mode v_node v_place r143_1 v_choiceCount v_trailCount v_cells v_base v_entry v_from h5 v_choices nv_choices h6 v_heights nv_heights h7 v_trail nv_trail (by omega) (by omega) (by omega) (by omega) (by omega) (by omega)
    · have f19 : r143.toInt ≠ 0 := i_ne (a := r143.toInt) (b := 0) rfl rfl c146
      refine ok_X1_enterCut (by omega) (by omega) (by omega) (by omega) (rp_mono b0 (by omega) (by omega)) (fun r150_0 r150_1 r150_2 r150_3 r150_4 r150_5 r150_6 r150_7 r150_8 r150_9 r150_10 r150_11 f20 f21 f22 f23 f24 f25 => ?_)
      exact j_179 r143_0 r150_0 r150_1 v_place r143_1 r150_2 v_trailCount v_cells r150_3 r150_4 r150_5 r150_6 r150_7 r150_8 r150_9 r150_10 r150_11 h7 v_trail nv_trail (by omega) (by omega) (by omega) (by omega) (by omega) (by omega)
  have j_175 : r8.toInt ≠ 0 → r8.toInt ≠ 1 → r8.toInt ≠ 2 → r8.toInt ≠ 3 → r8.toInt ≠ 4 → r8.toInt ≠ 6 → r8.toInt ≠ 7 → r8.toInt ≠ 8 → r8.toInt ≠ 9 → r8.toInt ≠ 10 → w_X1_enter_175 v_tree_count v_tree_end Q v_steps v_mode v_node v_place v_verdict v_choiceCount v_trailCount v_cells v_base v_entry v_from h5 v_choices nv_choices h6 v_heights nv_heights h7 v_trail nv_trail := by
    intro f26 f27 f28 f29 f30 f31 f32 f33 f34 f35
    unfold w_X1_enter_175
    refine ok_X1_enterPart (by omega) (by omega) (rp_mono b0 (by omega) (by omega)) (fun r176_0 r176_1 f36 f37 f38 => ?_)
    exact j_179 v_steps r176_0 r176_1 v_place v_verdict v_choiceCount v_trailCount v_cells v_base v_entry v_from h5 v_choices nv_choices h6 v_heights nv_heights h7 v_trail nv_trail (by omega) (by omega) (by omega) (by omega) (by omega) (by omega)
  refine ⟨fun c11_0 => ?_, fun c11_1 => ?_, fun c11_2 => ?_, fun c11_3 => ?_, fun c11_4 => ?_, fun c11_5 => ?_, fun c11_6 => ?_, fun c11_7 => ?_, fun c11_8 => ?_, fun c11_9 => ?_, ?_⟩
  · have f39 : r8.toInt = 0 := i_eq (a := r8.toInt) (b := 0) rfl rfl c11_0
    exact j_68  (by omega)
  · have f40 : r8.toInt = 1 := i_eq (a := r8.toInt) (b := 1) rfl rfl c11_1
    exact j_68  (by omega)
  · have f41 : r8.toInt = 2 := i_eq (a := r8.toInt) (b := 2) rfl rfl c11_2
    exact j_68  (by omega)
  · have f42 : r8.toInt = 3 := i_eq (a := r8.toInt) (b := 3) rfl rfl c11_3
    refine ok_X1_step  (fun r83 r83_0 r83_1 f43 f44 => ?_)
    refine ⟨fun c86 => ?_, fun c86 => ?_⟩
    · have f45 : r83.toInt = 0 := i_eq (a := r83.toInt) (b := 0) rfl rfl c86
      exact j_179 r83_0 v_mode v_node v_place r83_1 v_choiceCount v_trailCount v_cells v_base v_entry v_from h5 v_choices nv_choices h6 v_heights nv_heights h7 v_trail nv_trail (by omega) (by omega) (by omega) (by omega) (by omega) (by omega)
    · have f46 : r83.toInt ≠ 0 := i_ne (a := r83.toInt) (b := 0) rfl rfl c86
      refine ok_X1_askEdge (by omega) (by omega) (by omega) (by omega) (by omega) (fun r90_0 f47 f48 => ?_)
      exact j_179 r83_0 r90_0 v_node v_place r83_1 v_choiceCount v_trailCount v_cells v_base v_entry v_from h5 v_choices nv_choices h6 v_heights nv_heights h7 v_trail nv_trail (by omega) (by omega) (by omega) (by omega) (by omega) (by omega)
  · have f49 : r8.toInt = 4 := i_eq (a := r8.toInt) (b := 4) rfl rfl c11_4
    refine ok_X1_step  (fun r97 r97_0 r97_1 f50 f51 => ?_)
    refine ⟨fun c100 => ?_, fun c100 => ?_⟩
    · have f52 : r97.toInt = 0 := i_eq (a := r97.toInt) (b := 0) rfl rfl c100
      exact j_179 r97_0 v_mode v_node v_place r97_1 v_choiceCount v_trailCount v_cells v_base v_entry v_from h5 v_choices nv_choices h6 v_heights nv_heights h7 v_trail nv_trail (by omega) (by omega) (by omega) (by omega) (by omega) (by omega)
    · have f53 : r97.toInt ≠ 0 := i_ne (a := r97.toInt) (b := 0) rfl rfl c100
      refine ok_X1_askBack (by omega) (by omega) (by omega) (by omega) (by omega) (fun r104_0 r104_1 f54 f55 f56 f57 f58 => ?_)
      exact j_179 r97_0 r104_0 v_node r104_1 r97_1 v_choiceCount v_trailCount v_cells v_base v_entry v_from h5 v_choices nv_choices h6 v_heights nv_heights h7 v_trail nv_trail (by omega) (by omega) (by omega) (by omega) (by omega) (by omega)
  · have f59 : r8.toInt = 6 := i_eq (a := r8.toInt) (b := 6) rfl rfl c11_5
    refine ok_X1_step  (fun r111 r111_0 r111_1 f60 f61 => ?_)
    refine ⟨fun c114 => ?_, fun c114 => ?_⟩
    · have f62 : r111.toInt = 0 := i_eq (a := r111.toInt) (b := 0) rfl rfl c114
      exact j_179 r111_0 v_mode v_node v_place r111_1 v_choiceCount v_trailCount v_cells v_base v_entry v_from h5 v_choices nv_choices h6 v_heights nv_heights h7 v_trail nv_trail (by omega) (by omega) (by omega) (by omega) (by omega) (by omega)
    · have f63 : r111.toInt ≠ 0 := i_ne (a := r111.toInt) (b := 0) rfl rfl c114
      refine ok_X10_firstOf (by omega) (by omega) (rp_mono b0 (by omega) (by omega)) (fun r126 f64 f65 => ?_)
      refine ok_X1_enterRow (by omega) (by omega) (by omega) (by omega) (rp_mono b0 (by omega) (by omega)) (rp_mono b1 (by omega) (by omega)) (fun r129_0 r129_1 r129_2 r129_3 r129_4 r129_5 r129_6 r129_7 r129_8 f66 f67 f68 f69 f70 => ?_)
      exact j_179 r111_0 r129_0 r129_1 v_place r111_1 r129_2 v_trailCount v_cells v_base v_entry v_from r129_3 r129_4 r129_5 r129_6 r129_7 r129_8 h7 v_trail nv_trail (by omega) (by omega) (by omega) (by omega) (by omega) (by omega)
  · have f71 : r8.toInt = 7 := i_eq (a := r8.toInt) (b := 7) rfl rfl c11_6
    refine ok_X1_enterLoop (by omega) (by omega) (by omega) (fun r136_0 r136_1 r136_2 r136_3 r136_4 r136_5 r136_6 r136_7 r136_8 r136_9 r136_10 f72 f73 f74 => ?_)
    exact j_179 r136_0 r136_1 v_node v_place r136_2 v_choiceCount r136_3 r136_4 r136_5 r136_6 r136_7 h5 v_choices nv_choices h6 v_heights nv_heights r136_8 r136_9 r136_10 (by omega) (by omega) (by omega) (by omega) (by omega) (by omega)
  · have f75 : r8.toInt = 8 := i_eq (a := r8.toInt) (b := 8) rfl rfl c11_7
    refine ok_X1_setCell (by omega) (fun r165_0 r165_1 r165_2 r165_3 r165_4 f76 f77 => ?_)
    refine ok_X1_enterPart (by omega) (by omega) (rp_mono b0 (by omega) (by omega)) (fun r169_0 r169_1 f78 f79 f80 => ?_)
    exact j_179 v_steps r169_0 r169_1 v_place v_verdict v_choiceCount r165_0 r165_1 v_base v_entry v_from h5 v_choices nv_choices h6 v_heights nv_heights r165_2 r165_3 r165_4 (by omega) (by omega) (by omega) (by omega) (by omega) (by omega)
  · have f81 : r8.toInt = 9 := i_eq (a := r8.toInt) (b := 9) rfl rfl c11_8
    exact j_142  (by omega)
  · have f82 : r8.toInt = 10 := i_eq (a := r8.toInt) (b := 10) rfl rfl c11_9
    exact j_142  (by omega)
  · intro c11_0 c11_1 c11_2 c11_3 c11_4 c11_5 c11_6 c11_7 c11_8 c11_9
    have f83 : r8.toInt ≠ 0 := i_ne (a := r8.toInt) (b := 0) rfl rfl c11_0
    have f84 : r8.toInt ≠ 1 := i_ne (a := r8.toInt) (b := 1) rfl rfl c11_1
    have f85 : r8.toInt ≠ 2 := i_ne (a := r8.toInt) (b := 2) rfl rfl c11_2
    have f86 : r8.toInt ≠ 3 := i_ne (a := r8.toInt) (b := 3) rfl rfl c11_3
    have f87 : r8.toInt ≠ 4 := i_ne (a := r8.toInt) (b := 4) rfl rfl c11_4
    have f88 : r8.toInt ≠ 6 := i_ne (a := r8.toInt) (b := 6) rfl rfl c11_5
    have f89 : r8.toInt ≠ 7 := i_ne (a := r8.toInt) (b := 7) rfl rfl c11_6
    have f90 : r8.toInt ≠ 8 := i_ne (a := r8.toInt) (b := 8) rfl rfl c11_7
    have f91 : r8.toInt ≠ 9 := i_ne (a := r8.toInt) (b := 9) rfl rfl c11_8
    have f92 : r8.toInt ≠ 10 := i_ne (a := r8.toInt) (b := 10) rfl rfl c11_9
    exact j_175  (by omega) (by omega) (by omega) (by omega) (by omega) (by omega) (by omega) (by omega) (by omega) (by omega)
set_option maxHeartbeats 4000000 in
theorem ok_X1_startFurther {v_wholeOnly : Bool} {v_start : Int32} {v_mode : Int32} {v_node : Int32} {v_place : Int32} {v_verdict : Int32} {v_choiceCount : Int32} {v_trailCount : Int32} {v_cells : Nat → Int32} {v_subject_count : Int32} {Q : Int32 → Int32 → Int32 → Int32 → Int32 → Int32 → Int32 → (Nat → Int32) → Prop} (a0 : 0 ≤ v_subject_count.toInt) (hq : ∀ (ov_start : Int32) (ov_mode : Int32) (ov_node : Int32) (ov_place : Int32) (ov_verdict : Int32) (ov_choiceCount : Int32) (ov_trailCount : Int32) (ov_cells : Nat → Int32), v_start.toInt ≤ ov_start.toInt → Q ov_start ov_mode ov_node ov_place ov_verdict ov_choiceCount ov_trailCount ov_cells) : w_X1_startFurther v_wholeOnly v_start v_mode v_node v_place v_verdict v_choiceCount v_trailCount v_cells v_subject_count Q := by
  have q_t : (bz true).toInt = 1 := rfl
  have q_f : (bz false).toInt = 0 := rfl
  have q_2 : (2 : Int32).toInt = 2 := rfl
  unfold w_X1_startFurther
  have f1 : (0 ≤ (bz v_wholeOnly).toInt ∧ (bz v_wholeOnly).toInt ≤ 1) := i_bzr v_wholeOnly
  have j_39 : ∀ (v_start_39 : Int32) (v_mode_39 : Int32) (v_node_39 : Int32) (v_place_39 : Int32) (v_verdict_39 : Int32) (v_choiceCount_39 : Int32) (v_trailCount_39 : Int32) (v_cells_39 : Nat → Int32), v_start.toInt ≤ v_start_39.toInt → w_X1_startFurther_39 Q v_start_39 v_mode_39 v_node_39 v_place_39 v_verdict_39 v_choiceCount_39 v_trailCount_39 v_cells_39 := by
    intro v_start_39 v_mode_39 v_node_39 v_place_39 v_verdict_39 v_choiceCount_39 v_trailCount_39 v_cells_39 f2
    unfold w_X1_startFurther_39
    exact hq v_start_39 v_mode_39 v_node_39 v_place_39 v_verdict_39 v_choiceCount_39 v_trailCount_39 v_cells_39 (by omega)
  have j_21 : w_X1_startFurther_21 Q v_start v_mode v_node v_place v_verdict v_choiceCount v_trailCount v_cells := by
    unfold w_X1_startFurther_21
    exact j_39 v_start v_mode v_node v_place 2 v_choiceCount v_trailCount v_cells (by omega)
  refine ⟨fun c4 => ?_, fun c4 => ?_⟩
  · have f3 : (bz v_wholeOnly).toInt ≠ 0 := i_ne (a := (bz v_wholeOnly).toInt) (b := 0) rfl rfl c4
    exact j_21  
  · have f4 : (bz v_wholeOnly).toInt = 0 := i_eq (a := (bz v_wholeOnly).toInt) (b := 0) rfl rfl c4
    refine ⟨fun c18 => ?_, fun c18 => ?_⟩
    · have f5 : v_start.toInt < v_subject_count.toInt := i_lt (a := v_start.toInt) (b := v_subject_count.toInt) rfl rfl c18
      intro x35 ex35
      have f6 : x35.toInt = v_start.toInt + 1 := i_add (a := v_start.toInt) (b := 1) ex35 rfl rfl (by have h8_0 := i_rng v_start; have h8_1 := i_rng v_subject_count; omega) (by have h8_0 := i_rng v_start; have h8_1 := i_rng v_subject_count; omega)
      refine ok_X1_startAt  (fun r36_0 r36_1 r36_2 r36_3 r36_4 r36_5 r36_6 f7 f8 f9 f10 f11 f12 => ?_)
      exact j_39 r36_0 r36_1 r36_2 r36_3 v_verdict r36_4 r36_5 r36_6 (by omega)
    · have f13 : v_subject_count.toInt ≤ v_start.toInt := i_nlt (a := v_start.toInt) (b := v_subject_count.toInt) rfl rfl c18
      exact j_21  
set_option maxHeartbeats 4000000 in
theorem ok_X1_lookAgain {v_mode : Int32} {v_node : Int32} {v_place : Int32} {v_entry : Nat → Int32} {v_from : Nat → Int32} {v_tree_count : Int32} {v_tree_sort : Nat → Int32} {v_tree_value : Nat → Int32} {Q : Int32 → Int32 → (Nat → Int32) → Prop} (a0 : 0 ≤ v_tree_count.toInt) (a1 : v_tree_count.toInt ≤ 256) (hq : ∀ (ov_mode : Int32) (ov_place : Int32) (ov_from : Nat → Int32), 1 ≤ ov_mode.toInt → ov_mode.toInt ≤ 5 → Q ov_mode ov_place ov_from) : w_X1_lookAgain v_mode v_node v_place v_entry v_from v_tree_count v_tree_sort v_tree_value Q := by
  have q_t : (bz true).toInt = 1 := rfl
  have q_f : (bz false).toInt = 0 := rfl
  have q_1 : (1 : Int32).toInt = 1 := rfl
  have q_2 : (2 : Int32).toInt = 2 := rfl
  have q_5 : (5 : Int32).toInt = 5 := rfl
  unfold w_X1_lookAgain
  refine ok_X1_looksBehind (by omega) (by omega) (fun r1 f1 f2 => ?_)
  have j_97 : ∀ (v_mode_97 : Int32) (v_place_97 : Int32) (v_from_97 : Nat → Int32), ((v_mode_97.toInt = 5 ∧ v_place_97.toInt = v_place.toInt ∧ 0 ≤ v_node.toInt ∧ v_node.toInt ≤ 255) ∨ (v_mode_97.toInt = 1) ∨ (v_mode_97.toInt = 2 ∧ v_place_97.toInt = v_place.toInt)) → w_X1_lookAgain_97 Q v_mode_97 v_place_97 v_from_97 := by
    intro v_mode_97 v_place_97 v_from_97 f3
    unfold w_X1_lookAgain_97
    exact hq v_mode_97 v_place_97 v_from_97 (by omega) (by omega)
  have j_57 : w_X1_lookAgain_57 v_node v_entry v_tree_count v_tree_value Q v_mode v_place v_from := by
    unfold w_X1_lookAgain_57
    refine ok_X10_valueOf (by omega) (by omega) (fun r65 f4 => ?_)
    refine ⟨fun c69 => ?_, fun c69 => ?_⟩
    · have f5 : r65.toInt ≠ 2 := i_ne (a := r65.toInt) (b := 2) rfl rfl c69
      refine ok_X1_entryOf  (fun r86 f6 => ?_)
      exact j_97 1 r86 v_from (by omega)
    · have f7 : r65.toInt = 2 := i_eq (a := r65.toInt) (b := 2) rfl rfl c69
      exact j_97 2 v_place v_from (by omega)
  refine ⟨fun c4 => ?_, fun c4 => ?_⟩
  · have f8 : r1.toInt = 0 := i_eq (a := r1.toInt) (b := 0) rfl rfl c4
    exact j_57  
  · have f9 : r1.toInt ≠ 0 := i_ne (a := r1.toInt) (b := 0) rfl rfl c4
    refine ⟨fun c11 => ?_, fun c11 => ?_⟩
    · have f10 : v_node.toInt < 0 := i_lt (a := v_node.toInt) (b := 0) rfl rfl c11
      exact j_57  
    · have f11 : 0 ≤ v_node.toInt := i_nlt (a := v_node.toInt) (b := 0) rfl rfl c11
      refine ⟨fun c21 => ?_, fun c21 => ?_⟩
      · have f12 : 256 ≤ v_node.toInt := i_le (a := 256) (b := v_node.toInt) rfl rfl c21
        exact j_57  
      · have f13 : v_node.toInt < 256 := i_nle (a := 256) (b := v_node.toInt) rfl rfl c21
        refine ⟨i_in (by omega) (by omega), ?_⟩
        intro x32 ex32
        refine ⟨fun c33 => ?_, fun c33 => ?_⟩
        · have f14 : x32.toInt ≤ 0 := i_le (a := x32.toInt) (b := 0) rfl rfl c33
          exact j_57  
        · have f15 : 0 < x32.toInt := i_nle (a := x32.toInt) (b := 0) rfl rfl c33
          refine ⟨i_in (by omega) (by omega), ?_⟩
          intro x45 ex45
          have f16 : x45.toInt = x32.toInt := congrArg Int32.toInt (ex45.trans ex32.symm)
          intro x47 ex47
          have f17 : x47.toInt = x45.toInt - 1 := i_sub (a := x45.toInt) (b := 1) ex47 rfl rfl (by omega) (by have h8_0 := i_rng x32; have h8_1 := i_rng x45; omega)
          refine ⟨i_in (by omega) (by omega), ?_⟩
          intro g48 eg48
          exact j_97 5 v_place g48 (by omega)
set_option maxHeartbeats 4000000 in
theorem ok_X1_endLoop {v_mode : Int32} {v_node : Int32} {v_choiceCount : Int32} {v_base : Nat → Int32} {v_tree_count : Int32} {v_tree_value : Nat → Int32} {Q : Int32 → Int32 → Prop} (a0 : 0 ≤ v_tree_count.toInt) (a1 : v_tree_count.toInt ≤ 256) (hq : ∀ (ov_mode : Int32) (ov_choiceCount : Int32), ov_mode.toInt = 1 → ov_choiceCount.toInt ≤ v_choiceCount.toInt → Q ov_mode ov_choiceCount) : w_X1_endLoop v_mode v_node v_choiceCount v_base v_tree_count v_tree_value Q := by
  have q_t : (bz true).toInt = 1 := rfl
  have q_f : (bz false).toInt = 0 := rfl
  have q_1 : (1 : Int32).toInt = 1 := rfl
  unfold w_X1_endLoop
  refine ok_X10_valueOf (by omega) (by omega) (fun r8 f1 => ?_)
  have j_19 : ∀ (v_choiceCount_19 : Int32), v_choiceCount_19.toInt ≤ v_choiceCount.toInt → ((v_choiceCount_19.toInt = v_choiceCount.toInt) ∨ (r8.toInt = 2 ∧ v_choiceCount_19.toInt ≤ v_choiceCount.toInt)) → w_X1_endLoop_19 Q v_mode v_choiceCount_19 := by
    intro v_choiceCount_19 f2 f3
    unfold w_X1_endLoop_19
    exact hq 1 v_choiceCount_19 (by omega) (by omega)
  refine ⟨fun c12 => ?_, fun c12 => ?_⟩
  · have f4 : r8.toInt ≠ 2 := i_ne (a := r8.toInt) (b := 2) rfl rfl c12
    exact j_19 v_choiceCount (by omega) (by omega)
  · have f5 : r8.toInt = 2 := i_eq (a := r8.toInt) (b := 2) rfl rfl c12
    refine ok_X1_cutToBase  (fun r16_0 f6 => ?_)
    exact j_19 r16_0 (by omega) (by omega)
set_option maxHeartbeats 4000000 in
theorem ok_X1_goBack {v_wholeOnly : Bool} {v_start : Int32} {v_mode : Int32} {v_node : Int32} {v_place : Int32} {v_verdict : Int32} {v_choiceCount : Int32} {v_trailCount : Int32} {v_cells : Nat → Int32} {v_base : Nat → Int32} {v_entry : Nat → Int32} {v_from : Nat → Int32} {v_choices : Nat → Int32} {nv_choices : Nat} {v_heights : Nat → Int32} {nv_heights : Nat} {v_trail : Nat → Int32} {nv_trail : Nat} {v_tree_count : Int32} {v_tree_sort : Nat → Int32} {v_tree_holder : Nat → Int32} {v_tree_end : Nat → Int32} {v_tree_value : Nat → Int32} {v_subject_count : Int32} {h5 : Nat} {h6 : Nat} {Q : Int32 → Int32 → Int32 → Int32 → Int32 → Int32 → Int32 → (Nat → Int32) → (Nat → Int32) → Nat → (Nat → Int32) → Nat → Nat → (Nat → Int32) → Nat → Prop} (a0 : (nv_choices : Int) ≤ 524288) (a1 : (nv_choices : Int) = (nv_heights : Int)) (a2 : (nv_trail : Int) ≤ 524288) (a3 : 0 ≤ v_tree_count.toInt) (a4 : v_tree_count.toInt ≤ 256) (a5 : 0 ≤ v_subject_count.toInt) (b0 : rp (fun k v => k < v ∧ v ≤ 256) v_tree_end 0 v_tree_count.toInt) (b1 : rp (fun k v => v < k ∧ -1 ≤ v) v_tree_holder 0 v_tree_count.toInt) (hq : ∀ (ov_start : Int32) (ov_mode : Int32) (ov_node : Int32) (ov_place : Int32) (ov_verdict : Int32) (ov_choiceCount : Int32) (ov_trailCount : Int32) (ov_cells : Nat → Int32) (ov_from : Nat → Int32) (oh5 : Nat) (ov_choices : Nat → Int32) (onv_choices : Nat) (oh6 : Nat) (ov_heights : Nat → Int32) (onv_heights : Nat), v_start.toInt ≤ ov_start.toInt → (onv_choices : Int) ≤ 524288 → (onv_choices : Int) = (onv_heights : Int) → Q ov_start ov_mode ov_node ov_place ov_verdict ov_choiceCount ov_trailCount ov_cells ov_from oh5 ov_choices onv_choices oh6 ov_heights onv_heights) : w_X1_goBack v_wholeOnly v_start v_mode v_node v_place v_verdict v_choiceCount v_trailCount v_cells v_base v_entry v_from v_choices nv_choices v_heights nv_heights v_trail nv_trail v_tree_count v_tree_sort v_tree_holder v_tree_end v_tree_value v_subject_count h5 h6 Q := by
  have q_t : (bz true).toInt = 1 := rfl
  have q_f : (bz false).toInt = 0 := rfl
  have q_4 : (4 : Int32).toInt = 4 := rfl
  unfold w_X1_goBack
  intro x8 ex8
  intro hn8
  have f1 : (nv_choices : Int) ≤ 524288 := by omega
  have f2 : x8.toInt = (nv_choices : Int) := i_len ex8 (by omega)
  have j_32 : ((x8.toInt + 1 ≤ v_choiceCount.toInt) ∨ (v_choiceCount.toInt ≤ x8.toInt ∧ (nv_heights : Int) ≤ 524288 ∧ v_choiceCount.toInt ≤ (nv_heights : Int) ∧ v_choiceCount.toInt ≤ 0)) → w_X1_goBack_32 v_wholeOnly v_subject_count Q v_start v_mode v_node v_place v_verdict v_choiceCount v_trailCount v_cells v_from h5 v_choices nv_choices h6 v_heights nv_heights := by
    intro f3
    unfold w_X1_goBack_32
    refine ok_X1_startFurther (by omega) (fun r33_0 r33_1 r33_2 r33_3 r33_4 r33_5 r33_6 r33_7 f4 => ?_)
    exact hq r33_0 r33_1 r33_2 r33_3 r33_4 r33_5 r33_6 r33_7 v_from h5 v_choices nv_choices h6 v_heights nv_heights (by omega) (by omega) (by omega)
  refine ⟨fun c9 => ?_, fun c9 => ?_⟩
  · have f5 : x8.toInt < v_choiceCount.toInt := i_lt (a := x8.toInt) (b := v_choiceCount.toInt) rfl rfl c9
    exact j_32  (by omega)
  · have f6 : v_choiceCount.toInt ≤ x8.toInt := i_nlt (a := x8.toInt) (b := v_choiceCount.toInt) rfl rfl c9
    intro x20 ex20
    intro hn20
    have f7 : (nv_heights : Int) ≤ 524288 := by omega
    have f8 : x20.toInt = (nv_heights : Int) := i_len ex20 (by omega)
    refine ⟨fun c21 => ?_, fun c21 => ?_⟩
    · have f9 : x20.toInt < v_choiceCount.toInt := i_lt (a := x20.toInt) (b := v_choiceCount.toInt) rfl rfl c21
      exfalso; omega
    · have f10 : v_choiceCount.toInt ≤ x20.toInt := i_nlt (a := x20.toInt) (b := v_choiceCount.toInt) rfl rfl c21
      refine ⟨fun c29 => ?_, fun c29 => ?_⟩
      · have f11 : 1 ≤ v_choiceCount.toInt := i_le (a := 1) (b := v_choiceCount.toInt) rfl rfl c29
        intro x43 ex43
        have f12 : x43.toInt = v_choiceCount.toInt - 1 := i_sub (a := v_choiceCount.toInt) (b := 1) ex43 rfl rfl (by omega) (by omega)
        refine ⟨i_in (by omega) (by omega), ?_⟩
        intro x55 ex55
        refine ⟨i_in (by omega) (by omega), ?_⟩
        intro x66 ex66
        refine ok_X1_undo_v1 (by omega) (fun r67_0 r67_1 f13 => ?_)
        intro x75 ex75
        intro x84 ex84
        intro x86 ex86
        intro x94 ex94
        intro x96 ex96
        have j_154 : ∀ (v_mode_154 : Int32) (v_node_154 : Int32) (v_place_154 : Int32) (v_choiceCount_154 : Int32) (v_from_154 : Nat → Int32) (h5_154 : Nat) (v_choices_154 : Nat → Int32) (nv_choices_154 : Nat) (h6_154 : Nat) (v_heights_154 : Nat → Int32) (nv_heights_154 : Nat), (nv_choices_154 : Int) ≤ 524288 → (nv_choices_154 : Int) = (nv_heights_154 : Int) → 0 ≤ v_mode_154.toInt → v_mode_154.toInt ≤ 5 → w_X1_goBack_154 Q v_start v_mode_154 v_node_154 v_place_154 v_verdict v_choiceCount_154 r67_0 r67_1 v_from_154 h5_154 v_choices_154 nv_choices_154 h6_154 v_heights_154 nv_heights_154 := by
          intro v_mode_154 v_node_154 v_place_154 v_choiceCount_154 v_from_154 h5_154 v_choices_154 nv_choices_154 h6_154 v_heights_154 nv_heights_154 f14 f15 f16 f17
          unfold w_X1_goBack_154
          exact hq v_start v_mode_154 v_node_154 v_place_154 v_verdict v_choiceCount_154 r67_0 r67_1 v_from_154 h5_154 v_choices_154 nv_choices_154 h6_154 v_heights_154 nv_heights_154 (by omega) (by omega) (by omega)
        refine ⟨fun c97_0 => ?_, fun c97_1 => ?_, fun c97_2 => ?_, ?_⟩
        · have f18 : x96.toInt = 0 := i_eq (a := x96.toInt) (b := 0) rfl rfl c97_0
          refine ok_X1_enterRow (by omega) (by omega) (by omega) (by omega) (rp_mono b0 (by omega) (by omega)) (rp_mono b1 (by omega) (by omega)) (fun r129_0 r129_1 r129_2 r129_3 r129_4 r129_5 r129_6 r129_7 r129_8 f19 f20 f21 f22 f23 => ?_)
          exact j_154 r129_0 r129_1 x75 r129_2 v_from r129_3 r129_4 r129_5 r129_6 r129_7 r129_8 (by omega) (by omega) (by omega) (by omega)
        · have f24 : x96.toInt = 1 := i_eq (a := x96.toInt) (b := 1) rfl rfl c97_1
          refine ok_X1_endLoop (by omega) (by omega) (fun r136_0 r136_1 f25 f26 => ?_)
          exact j_154 r136_0 x86 x75 r136_1 v_from h5 v_choices nv_choices h6 v_heights nv_heights (by omega) (by omega) (by omega) (by omega)
        · have f27 : x96.toInt = 2 := i_eq (a := x96.toInt) (b := 2) rfl rfl c97_2
          exact j_154 4 x86 x75 x43 v_from h5 v_choices nv_choices h6 v_heights nv_heights (by omega) (by omega) (by omega) (by omega)
        · intro c97_0 c97_1 c97_2
          have f28 : x96.toInt ≠ 0 := i_ne (a := x96.toInt) (b := 0) rfl rfl c97_0
          have f29 : x96.toInt ≠ 1 := i_ne (a := x96.toInt) (b := 1) rfl rfl c97_1
          have f30 : x96.toInt ≠ 2 := i_ne (a := x96.toInt) (b := 2) rfl rfl c97_2
          refine ok_X1_lookAgain (by omega) (by omega) (fun r151_0 r151_1 r151_2 f31 f32 => ?_)
          exact j_154 r151_0 x86 r151_1 x43 r151_2 h5 v_choices nv_choices h6 v_heights nv_heights (by omega) (by omega) (by omega) (by omega)
      · have f33 : v_choiceCount.toInt < 1 := i_nle (a := 1) (b := v_choiceCount.toInt) rfl rfl c29
        exact j_32  (by omega)
set_option maxHeartbeats 4000000 in
theorem ok_X1_comeToLoop {v_mode : Int32} {v_node : Int32} {v_place : Int32} {v_choiceCount : Int32} {v_trailCount : Int32} {v_cells : Nat → Int32} {v_base : Nat → Int32} {v_choices : Nat → Int32} {nv_choices : Nat} {v_heights : Nat → Int32} {nv_heights : Nat} {v_tree_count : Int32} {v_tree_value : Nat → Int32} {v_tree_low : Nat → Int32} {v_tree_high : Nat → Int32} {h3 : Nat} {h4 : Nat} {Q : Int32 → Int32 → Nat → (Nat → Int32) → Nat → Nat → (Nat → Int32) → Nat → Prop} (a0 : (nv_choices : Int) ≤ 524288) (a1 : (nv_choices : Int) = (nv_heights : Int)) (a2 : 0 ≤ v_tree_count.toInt) (a3 : v_tree_count.toInt ≤ 256) (hq : ∀ (ov_mode : Int32) (ov_choiceCount : Int32) (oh3 : Nat) (ov_choices : Nat → Int32) (onv_choices : Nat) (oh4 : Nat) (ov_heights : Nat → Int32) (onv_heights : Nat), (onv_choices : Int) ≤ 524288 → (onv_choices : Int) = (onv_heights : Int) → 1 ≤ ov_mode.toInt → ov_mode.toInt ≤ 4 → Q ov_mode ov_choiceCount oh3 ov_choices onv_choices oh4 ov_heights onv_heights) : w_X1_comeToLoop v_mode v_node v_place v_choiceCount v_trailCount v_cells v_base v_choices nv_choices v_heights nv_heights v_tree_count v_tree_value v_tree_low v_tree_high h3 h4 Q := by
  have q_t : (bz true).toInt = 1 := rfl
  have q_f : (bz false).toInt = 0 := rfl
  have q_0 : (0 : Int32).toInt = 0 := rfl
  have q_1 : (1 : Int32).toInt = 1 := rfl
  have q_2 : (2 : Int32).toInt = 2 := rfl
  have q_4 : (4 : Int32).toInt = 4 := rfl
  unfold w_X1_comeToLoop
  refine ok_X1_cell  (fun r5 f1 => ?_)
  intro x11 ex11
  refine ok_X10_highOf (by omega) (by omega) (fun r21 f2 => ?_)
  have j_48 : ∀ (s0_48 : Int32), ((s0_48.toInt = 0) ∨ (s0_48.toInt = 1)) → w_X1_comeToLoop_48 v_node v_place v_trailCount v_base v_tree_count v_tree_value v_tree_low Q s0_48 x11 v_mode v_choiceCount h3 v_choices nv_choices h4 v_heights nv_heights := by
    intro s0_48 f3
    unfold w_X1_comeToLoop_48
    refine ok_X10_lowOf (by omega) (by omega) (fun r58 f4 => ?_)
    have j_128 : ∀ (v_mode_128 : Int32) (v_choiceCount_128 : Int32) (h3_128 : Nat) (v_choices_128 : Nat → Int32) (nv_choices_128 : Nat) (h4_128 : Nat) (v_heights_128 : Nat → Int32) (nv_heights_128 : Nat), (nv_choices_128 : Int) ≤ 524288 → (nv_choices_128 : Int) = (nv_heights_128 : Int) → 1 ≤ v_mode_128.toInt → v_mode_128.toInt ≤ 4 → w_X1_comeToLoop_128 Q v_mode_128 v_choiceCount_128 h3_128 v_choices_128 nv_choices_128 h4_128 v_heights_128 nv_heights_128 := by
      intro v_mode_128 v_choiceCount_128 h3_128 v_choices_128 nv_choices_128 h4_128 v_heights_128 nv_heights_128 f5 f6 f7 f8
      unfold w_X1_comeToLoop_128
      exact hq v_mode_128 v_choiceCount_128 h3_128 v_choices_128 nv_choices_128 h4_128 v_heights_128 nv_heights_128 (by omega) (by omega) (by omega) (by omega)
    refine ⟨fun c61 => ?_, fun c61 => ?_⟩
    · have f9 : r58.toInt ≤ x11.toInt := i_le (a := r58.toInt) (b := x11.toInt) rfl rfl c61
      refine ⟨fun c73 => ?_, fun c73 => ?_⟩
      · have f10 : s0_48.toInt ≠ 0 := i_ne (a := s0_48.toInt) (b := 0) rfl rfl c73
        refine ok_X10_valueOf (by omega) (by omega) (fun r91 f11 => ?_)
        refine ⟨fun c95 => ?_, fun c95 => ?_⟩
        · have f12 : r91.toInt ≠ 1 := i_ne (a := r91.toInt) (b := 1) rfl rfl c95
          refine ok_X1_keepChoice (by omega) (by omega) (fun r120_0 r120_1 r120_2 r120_3 r120_4 r120_5 r120_6 f13 f14 => ?_)
          exact j_128 4 r120_0 r120_1 r120_2 r120_3 r120_4 r120_5 r120_6 (by omega) (by omega) (by omega) (by omega)
        · have f15 : r91.toInt = 1 := i_eq (a := r91.toInt) (b := 1) rfl rfl c95
          refine ok_X1_keepChoice (by omega) (by omega) (fun r104_0 r104_1 r104_2 r104_3 r104_4 r104_5 r104_6 f16 f17 => ?_)
          refine ok_X1_endLoop (by omega) (by omega) (fun r108_0 r108_1 f18 f19 => ?_)
          exact j_128 r108_0 r108_1 r104_1 r104_2 r104_3 r104_4 r104_5 r104_6 (by omega) (by omega) (by omega) (by omega)
      · have f20 : s0_48.toInt = 0 := i_eq (a := s0_48.toInt) (b := 0) rfl rfl c73
        refine ok_X1_endLoop (by omega) (by omega) (fun r77_0 r77_1 f21 f22 => ?_)
        exact j_128 r77_0 r77_1 h3 v_choices nv_choices h4 v_heights nv_heights (by omega) (by omega) (by omega) (by omega)
    · have f23 : x11.toInt < r58.toInt := i_nle (a := r58.toInt) (b := x11.toInt) rfl rfl c61
      exact j_128 4 v_choiceCount h3 v_choices nv_choices h4 v_heights nv_heights (by omega) (by omega) (by omega) (by omega)
  have j_43 : w_X1_comeToLoop_43 v_node v_place v_trailCount v_base v_tree_count v_tree_value v_tree_low Q x11 v_mode v_choiceCount h3 v_choices nv_choices h4 v_heights nv_heights := by
    unfold w_X1_comeToLoop_43
    exact j_48 1 (by omega)
  refine ⟨fun c25 => ?_, fun c25 => ?_⟩
  · have f24 : r21.toInt = (-1) := i_eq (a := r21.toInt) (b := (-1)) rfl rfl c25
    exact j_43  
  · have f25 : r21.toInt ≠ (-1) := i_ne (a := r21.toInt) (b := (-1)) rfl rfl c25
    refine ok_X10_highOf (by omega) (by omega) (fun r37 f26 => ?_)
    refine ⟨fun c40 => ?_, fun c40 => ?_⟩
    · have f27 : r37.toInt ≤ x11.toInt := i_le (a := r37.toInt) (b := x11.toInt) rfl rfl c40
      exact j_48 0 (by omega)
    · have f28 : x11.toInt < r37.toInt := i_nle (a := r37.toInt) (b := x11.toInt) rfl rfl c40
      exact j_43  
set_option maxHeartbeats 4000000 in
theorem ok_X1_tell {a1_items : Nat → Int32} {na1_items : Nat} {v_start : Int32} {v_place : Int32} {v_cells : Nat → Int32} {v_tree_captures : Int32} {Q : Int32 → Bool → (Nat → Int32) → Prop} (a0 : (na1_items : Int) ≤ 1000) (a1 : v_tree_captures.toInt ≤ 9) (hq : ∀ (oa1_count : Int32) (oa1_over : Bool) (oa1_items : Nat → Int32), 0 ≤ oa1_count.toInt + 1 → 0 ≤ oa1_count.toInt → oa1_count.toInt ≤ (na1_items : Int) → Q oa1_count oa1_over oa1_items) : w_X1_tell a1_items na1_items v_start v_place v_cells v_tree_captures Q := by
  have q_t : (bz true).toInt = 1 := rfl
  have q_f : (bz false).toInt = 0 := rfl
  have q_1 : (1 : Int32).toInt = 1 := rfl
  unfold w_X1_tell
  refine ok_X7_empty  (fun r1_0 r1_1 f1 f2 => ?_)
  refine ok_X7_add (by omega) (by omega) (by omega) (fun r9_0 r9_1 r9_2 f3 f4 f5 f6 => ?_)
  refine ok_X7_add (by omega) (by omega) (by omega) (fun r17_0 r17_1 r17_2 f7 f8 f9 f10 => ?_)
  have j_22 : ∀ n_22 : Nat, ∀ (l2_22 : Int32) (a1_count_22 : Int32) (a1_over_22 : Bool) (a1_items_22 : Nat → Int32), 1 ≤ l2_22.toInt → r17_0.toInt ≤ a1_count_22.toInt → a1_count_22.toInt ≤ (na1_items : Int) → ((-1) * l2_22.toInt + 2147483648).toNat < n_22 → w_X1_tell_22 na1_items v_cells v_tree_captures Q n_22 l2_22 a1_count_22 a1_over_22 a1_items_22 := by
    intro n_22
    induction n_22 with
    | zero =>
      intro l2_22 a1_count_22 a1_over_22 a1_items_22 f11 f12 f13 hm_22
      exfalso; omega
    | succ n_22 ih_22 =>
      intro l2_22 a1_count_22 a1_over_22 a1_items_22 f11 f12 f13 hm_22
      unfold w_X1_tell_22
      unfold w_X1_tell_22B
      refine ⟨fun c30 => ?_, fun c30 => ?_⟩
      · have f14 : v_tree_captures.toInt < l2_22.toInt := i_lt (a := v_tree_captures.toInt) (b := l2_22.toInt) rfl rfl c30
        exact hq a1_count_22 a1_over_22 a1_items_22 (by omega) (by omega) (by omega)
      · have f15 : l2_22.toInt ≤ v_tree_captures.toInt := i_nlt (a := v_tree_captures.toInt) (b := l2_22.toInt) rfl rfl c30
        refine ok_X1_captureBegin  (fun r36 => ?_)
        refine ok_X7_add (by omega) (by omega) (by omega) (fun r39_0 r39_1 r39_2 f16 f17 f18 f19 => ?_)
        refine ok_X1_captureEnd  (fun r45 => ?_)
        refine ok_X7_add (by omega) (by omega) (by omega) (fun r48_0 r48_1 r48_2 f20 f21 f22 f23 => ?_)
        intro x51 ex51
        have f24 : x51.toInt = l2_22.toInt + 1 := i_add (a := l2_22.toInt) (b := 1) ex51 rfl rfl (by omega) (by omega)
        exact ih_22 x51 r48_0 r48_1 r48_2  (by omega) (by omega) (by omega) (by have h8_0 := i_rng l2_22; have h8_1 := i_rng x51; omega)
  exact ⟨(2147483647 : Int).toNat + 1, j_22   ((2147483647 : Int).toNat + 1) 1 r17_0 r17_1 r17_2  (by omega) (by omega) (by omega) (by omega)⟩
set_option maxHeartbeats 4000000 in
theorem ok_X1_proceed {p1 : Int32} {a2_count : Int32} {a2_over : Bool} {a2_items : Nat → Int32} {na2_items : Nat} {v_steps : Int32} {v_wholeOnly : Bool} {v_start : Int32} {v_mode : Int32} {v_node : Int32} {v_place : Int32} {v_choiceCount : Int32} {v_trailCount : Int32} {v_cells : Nat → Int32} {v_base : Nat → Int32} {v_entry : Nat → Int32} {v_from : Nat → Int32} {v_choices : Nat → Int32} {nv_choices : Nat} {v_heights : Nat → Int32} {nv_heights : Nat} {v_trail : Nat → Int32} {nv_trail : Nat} {v_tree_count : Int32} {v_tree_captures : Int32} {v_tree_ranges : Int32} {v_tree_sort : Nat → Int32} {v_tree_holder : Nat → Int32} {v_tree_end : Nat → Int32} {v_tree_value : Nat → Int32} {v_tree_low : Nat → Int32} {v_tree_high : Nat → Int32} {v_tree_withinCase : Nat → Bool} {v_tree_rangeBegin : Nat → Int32} {v_tree_rangeEnd : Nat → Int32} {v_subject_count : Int32} {v_subject_items : Nat → Int32} {nv_subject_items : Nat} {h7 : Nat} {h8 : Nat} {h9 : Nat} {Q : Int32 → Int32 → Bool → (Nat → Int32) → Int32 → Int32 → Int32 → Int32 → Int32 → Int32 → Int32 → Int32 → Int32 → (Nat → Int32) → (Nat → Int32) → (Nat → Int32) → (Nat → Int32) → Nat → (Nat → Int32) → Nat → Nat → (Nat → Int32) → Nat → Nat → (Nat → Int32) → Nat → Prop} (a0 : 0 ≤ a2_count.toInt) (a1 : a2_count.toInt ≤ (na2_items : Int)) (a2 : (na2_items : Int) ≤ 1000) (a3 : (nv_choices : Int) ≤ 524288) (a4 : (nv_choices : Int) = (nv_heights : Int)) (a5 : (nv_trail : Int) ≤ 524288) (a6 : 0 ≤ v_tree_count.toInt) (a7 : v_tree_count.toInt ≤ 256) (a8 : 0 ≤ v_tree_ranges.toInt) (a9 : v_tree_ranges.toInt ≤ 512) (a10 : 0 ≤ v_subject_count.toInt) (a11 : v_subject_count.toInt ≤ (nv_subject_items : Int)) (a12 : (nv_subject_items : Int) ≤ 1000) (a13 : v_tree_captures.toInt ≤ 9) (b0 : rp (fun k v => k < v ∧ v ≤ 256) v_tree_end 0 v_tree_count.toInt) (b1 : rp (fun k v => v < k ∧ -1 ≤ v) v_tree_holder 0 v_tree_count.toInt) (hq : ∀ (r : Int32) (oa2_count : Int32) (oa2_over : Bool) (oa2_items : Nat → Int32) (ov_steps : Int32) (ov_start : Int32) (ov_mode : Int32) (ov_node : Int32) (ov_place : Int32) (ov_limit : Int32) (ov_verdict : Int32) (ov_choiceCount : Int32) (ov_trailCount : Int32) (ov_cells : Nat → Int32) (ov_base : Nat → Int32) (ov_entry : Nat → Int32) (ov_from : Nat → Int32) (oh7 : Nat) (ov_choices : Nat → Int32) (onv_choices : Nat) (oh8 : Nat) (ov_heights : Nat → Int32) (onv_heights : Nat) (oh9 : Nat) (ov_trail : Nat → Int32) (onv_trail : Nat), v_steps.toInt ≤ ov_steps.toInt → v_start.toInt ≤ ov_start.toInt → (onv_choices : Int) ≤ 524288 → (onv_choices : Int) = (onv_heights : Int) → (onv_trail : Int) ≤ 524288 → 0 ≤ r.toInt + 8 → r.toInt ≤ 2 → 0 ≤ oa2_count.toInt → oa2_count.toInt ≤ 1000 → ov_limit.toInt ≤ 3000 → oa2_count.toInt ≤ (na2_items : Int) → Q r oa2_count oa2_over oa2_items ov_steps ov_start ov_mode ov_node ov_place ov_limit ov_verdict ov_choiceCount ov_trailCount ov_cells ov_base ov_entry ov_from oh7 ov_choices onv_choices oh8 ov_heights onv_heights oh9 ov_trail onv_trail) : w_X1_proceed p1 a2_count a2_over a2_items na2_items v_steps v_wholeOnly v_start v_mode v_node v_place v_choiceCount v_trailCount v_cells v_base v_entry v_from v_choices nv_choices v_heights nv_heights v_trail nv_trail v_tree_count v_tree_captures v_tree_ranges v_tree_sort v_tree_holder v_tree_end v_tree_value v_tree_low v_tree_high v_tree_withinCase v_tree_rangeBegin v_tree_rangeEnd v_subject_count v_subject_items nv_subject_items h7 h8 h9 Q := by
  have q_t : (bz true).toInt = 1 := rfl
  have q_f : (bz false).toInt = 0 := rfl
  have q_m8 : ((-8) : Int32).toInt = (-8) := rfl
  have q_0 : (0 : Int32).toInt = 0 := rfl
  have q_1 : (1 : Int32).toInt = 1 := rfl
  have q_2 : (2 : Int32).toInt = 2 := rfl
  unfold w_X1_proceed
  intro x9 ex9
  intro x10 ex10
  have f1 : ((x10.toInt = 3000 ∧ 3000 ≤ x9.toInt) ∨ (x10.toInt = x9.toInt ∧ x9.toInt ≤ 3000)) := by have h9 := i_min (a := x9.toInt) (b := 3000) ex10 rfl rfl; omega
  have j_23 : ∀ n_23 : Nat, ∀ (l3_23 : Int32) (v_steps_23 : Int32) (v_start_23 : Int32) (v_mode_23 : Int32) (v_node_23 : Int32) (v_place_23 : Int32) (v_verdict_23 : Int32) (v_choiceCount_23 : Int32) (v_trailCount_23 : Int32) (v_cells_23 : Nat → Int32) (v_base_23 : Nat → Int32) (v_entry_23 : Nat → Int32) (v_from_23 : Nat → Int32) (h7_23 : Nat) (v_choices_23 : Nat → Int32) (nv_choices_23 : Nat) (h8_23 : Nat) (v_heights_23 : Nat → Int32) (nv_heights_23 : Nat) (h9_23 : Nat) (v_trail_23 : Nat → Int32) (nv_trail_23 : Nat), 0 ≤ l3_23.toInt → l3_23.toInt ≤ 1073741824 → v_steps.toInt ≤ v_steps_23.toInt → v_start.toInt ≤ v_start_23.toInt → (nv_choices_23 : Int) ≤ 524288 → (nv_choices_23 : Int) = (nv_heights_23 : Int) → (nv_trail_23 : Int) ≤ 524288 → ((-1) * l3_23.toInt + 1073741824).toNat < n_23 → w_X1_proceed_23 na2_items v_wholeOnly v_tree_count v_tree_captures v_tree_ranges v_tree_sort v_tree_holder v_tree_end v_tree_value v_tree_low v_tree_high v_tree_withinCase v_tree_rangeBegin v_tree_rangeEnd v_subject_count v_subject_items nv_subject_items Q a2_count a2_over a2_items x10 n_23 l3_23 v_steps_23 v_start_23 v_mode_23 v_node_23 v_place_23 v_verdict_23 v_choiceCount_23 v_trailCount_23 v_cells_23 v_base_23 v_entry_23 v_from_23 h7_23 v_choices_23 nv_choices_23 h8_23 v_heights_23 nv_heights_23 h9_23 v_trail_23 nv_trail_23 := by
    intro n_23
    induction n_23 with
    | zero =>
      intro l3_23 v_steps_23 v_start_23 v_mode_23 v_node_23 v_place_23 v_verdict_23 v_choiceCount_23 v_trailCount_23 v_cells_23 v_base_23 v_entry_23 v_from_23 h7_23 v_choices_23 nv_choices_23 h8_23 v_heights_23 nv_heights_23 h9_23 v_trail_23 nv_trail_23 f2 f3 f4 f5 f6 f7 f8 hm_23
      exfalso; omega
    | succ n_23 ih_23 =>
      intro l3_23 v_steps_23 v_start_23 v_mode_23 v_node_23 v_place_23 v_verdict_23 v_choiceCount_23 v_trailCount_23 v_cells_23 v_base_23 v_entry_23 v_from_23 h7_23 v_choices_23 nv_choices_23 h8_23 v_heights_23 nv_heights_23 h9_23 v_trail_23 nv_trail_23 f2 f3 f4 f5 f6 f7 f8 hm_23
      unfold w_X1_proceed_23
      unfold w_X1_proceed_23B
      have j_125 : ((1073741824 ≤ l3_23.toInt) ∨ (l3_23.toInt ≤ 1073741823)) → w_X1_proceed_125 na2_items v_tree_captures Q a2_count a2_over a2_items v_steps_23 v_start_23 v_mode_23 v_node_23 v_place_23 x10 v_verdict_23 v_choiceCount_23 v_trailCount_23 v_cells_23 v_base_23 v_entry_23 v_from_23 h7_23 v_choices_23 nv_choices_23 h8_23 v_heights_23 nv_heights_23 h9_23 v_trail_23 nv_trail_23 := by
        intro f9
        unfold w_X1_proceed_125
        refine ⟨fun c130 => ?_, fun c130 => ?_⟩
        · have f10 : v_verdict_23.toInt ≠ 3 := i_ne (a := v_verdict_23.toInt) (b := 3) rfl rfl c130
          refine ⟨fun c155 => ?_, fun c155 => ?_⟩
          · have f11 : v_verdict_23.toInt = 1 := i_eq (a := v_verdict_23.toInt) (b := 1) rfl rfl c155
            refine ok_X1_tell (by omega) (by omega) (fun r162_0 r162_1 r162_2 f12 f13 f14 => ?_)
            exact hq 1 r162_0 r162_1 r162_2 v_steps_23 v_start_23 v_mode_23 v_node_23 v_place_23 x10 v_verdict_23 v_choiceCount_23 v_trailCount_23 v_cells_23 v_base_23 v_entry_23 v_from_23 h7_23 v_choices_23 nv_choices_23 h8_23 v_heights_23 nv_heights_23 h9_23 v_trail_23 nv_trail_23 (by omega) (by omega) (by omega) (by omega) (by omega) (by omega) (by omega) (by omega) (by omega) (by omega) (by omega)
          · have f15 : v_verdict_23.toInt ≠ 1 := i_ne (a := v_verdict_23.toInt) (b := 1) rfl rfl c155
            exact hq 0 a2_count a2_over a2_items v_steps_23 v_start_23 v_mode_23 v_node_23 v_place_23 x10 v_verdict_23 v_choiceCount_23 v_trailCount_23 v_cells_23 v_base_23 v_entry_23 v_from_23 h7_23 v_choices_23 nv_choices_23 h8_23 v_heights_23 nv_heights_23 h9_23 v_trail_23 nv_trail_23 (by omega) (by omega) (by omega) (by omega) (by omega) (by omega) (by omega) (by omega) (by omega) (by omega) (by omega)
        · have f16 : v_verdict_23.toInt = 3 := i_eq (a := v_verdict_23.toInt) (b := 3) rfl rfl c130
          have j_149 : ∀ (s0_149 : Int32), ((s0_149.toInt = 2 ∧ v_steps_23.toInt ≤ 2999) ∨ (s0_149.toInt + 8 = 0 ∧ 3000 ≤ v_steps_23.toInt)) → w_X1_proceed_149 Q s0_149 a2_count a2_over a2_items v_steps_23 v_start_23 v_mode_23 v_node_23 v_place_23 x10 v_verdict_23 v_choiceCount_23 v_trailCount_23 v_cells_23 v_base_23 v_entry_23 v_from_23 h7_23 v_choices_23 nv_choices_23 h8_23 v_heights_23 nv_heights_23 h9_23 v_trail_23 nv_trail_23 := by
            intro s0_149 f17
            unfold w_X1_proceed_149
            exact hq s0_149 a2_count a2_over a2_items v_steps_23 v_start_23 v_mode_23 v_node_23 v_place_23 x10 v_verdict_23 v_choiceCount_23 v_trailCount_23 v_cells_23 v_base_23 v_entry_23 v_from_23 h7_23 v_choices_23 nv_choices_23 h8_23 v_heights_23 nv_heights_23 h9_23 v_trail_23 nv_trail_23 (by omega) (by omega) (by omega) (by omega) (by omega) (by omega) (by omega) (by omega) (by omega) (by omega) (by omega)
          refine ⟨fun c140 => ?_, fun c140 => ?_⟩
          · have f18 : v_steps_23.toInt < 3000 := i_lt (a := v_steps_23.toInt) (b := 3000) rfl rfl c140
            exact j_149 2 (by omega)
          · have f19 : 3000 ≤ v_steps_23.toInt := i_nlt (a := v_steps_23.toInt) (b := 3000) rfl rfl c140
            exact j_149 (-8) (by omega)
      refine ⟨fun c26 => ?_, fun c26 => ?_⟩
      · have f20 : 1073741824 ≤ l3_23.toInt := i_le (a := 1073741824) (b := l3_23.toInt) rfl rfl c26
        exact j_125  (by omega)
      · have f21 : l3_23.toInt < 1073741824 := i_nle (a := 1073741824) (b := l3_23.toInt) rfl rfl c26
        refine ⟨fun c33 => ?_, fun c33 => ?_⟩
        · have f22 : v_verdict_23.toInt ≠ 0 := i_ne (a := v_verdict_23.toInt) (b := 0) rfl rfl c33
          exact j_125  (by omega)
        · have f23 : v_verdict_23.toInt = 0 := i_eq (a := v_verdict_23.toInt) (b := 0) rfl rfl c33
          have j_119 : ∀ (v_steps_119 : Int32) (v_start_119 : Int32) (v_mode_119 : Int32) (v_node_119 : Int32) (v_place_119 : Int32) (v_verdict_119 : Int32) (v_choiceCount_119 : Int32) (v_trailCount_119 : Int32) (v_cells_119 : Nat → Int32) (v_base_119 : Nat → Int32) (v_entry_119 : Nat → Int32) (v_from_119 : Nat → Int32) (h7_119 : Nat) (v_choices_119 : Nat → Int32) (nv_choices_119 : Nat) (h8_119 : Nat) (v_heights_119 : Nat → Int32) (nv_heights_119 : Nat) (h9_119 : Nat) (v_trail_119 : Nat → Int32) (nv_trail_119 : Nat), (nv_choices_119 : Int) ≤ 524288 → (nv_choices_119 : Int) = (nv_heights_119 : Int) → (nv_trail_119 : Int) ≤ 524288 → v_steps.toInt ≤ v_steps_119.toInt → v_steps_23.toInt ≤ v_steps_119.toInt → v_start.toInt ≤ v_start_119.toInt → v_start_23.toInt ≤ v_start_119.toInt → w_X1_proceed_119 Q (w_X1_proceed_23 na2_items v_wholeOnly v_tree_count v_tree_captures v_tree_ranges v_tree_sort v_tree_holder v_tree_end v_tree_value v_tree_low v_tree_high v_tree_withinCase v_tree_rangeBegin v_tree_rangeEnd v_subject_count v_subject_items nv_subject_items Q a2_count a2_over a2_items x10 n_23) l3_23 v_steps_119 v_start_119 v_mode_119 v_node_119 v_place_119 v_verdict_119 v_choiceCount_119 v_trailCount_119 v_cells_119 v_base_119 v_entry_119 v_from_119 h7_119 v_choices_119 nv_choices_119 h8_119 v_heights_119 nv_heights_119 h9_119 v_trail_119 nv_trail_119 := by
            intro v_steps_119 v_start_119 v_mode_119 v_node_119 v_place_119 v_verdict_119 v_choiceCount_119 v_trailCount_119 v_cells_119 v_base_119 v_entry_119 v_from_119 h7_119 v_choices_119 nv_choices_119 h8_119 v_heights_119 nv_heights_119 h9_119 v_trail_119 nv_trail_119 f24 f25 f26 f27 f28 f29 f30
            unfold w_X1_proceed_119
            intro x119 ex119
            have f31 : x119.toInt = l3_23.toInt + 1 := i_add (a := l3_23.toInt) (b := 1) ex119 rfl rfl (by omega) (by omega)
            exact ih_23 x119 v_steps_119 v_start_119 v_mode_119 v_node_119 v_place_119 v_verdict_119 v_choiceCount_119 v_trailCount_119 v_cells_119 v_base_119 v_entry_119 v_from_119 h7_119 v_choices_119 nv_choices_119 h8_119 v_heights_119 nv_heights_119 h9_119 v_trail_119 nv_trail_119  (by omega) (by omega) (by omega) (by omega) (by omega) (by omega) (by omega) (by have h8_0 := i_rng l3_23; have h8_1 := i_rng x119; omega)
          have j_115 : v_mode_23.toInt ≠ 0 → v_mode_23.toInt ≠ 1 → v_mode_23.toInt ≠ 3 → v_mode_23.toInt ≠ 4 → v_mode_23.toInt ≠ 5 → w_X1_proceed_115 v_wholeOnly v_tree_count v_tree_sort v_tree_holder v_tree_end v_tree_value v_subject_count Q (w_X1_proceed_23 na2_items v_wholeOnly v_tree_count v_tree_captures v_tree_ranges v_tree_sort v_tree_holder v_tree_end v_tree_value v_tree_low v_tree_high v_tree_withinCase v_tree_rangeBegin v_tree_rangeEnd v_subject_count v_subject_items nv_subject_items Q a2_count a2_over a2_items x10 n_23) l3_23 v_steps_23 v_start_23 v_mode_23 v_node_23 v_place_23 v_verdict_23 v_choiceCount_23 v_trailCount_23 v_cells_23 v_base_23 v_entry_23 v_from_23 h7_23 v_choices_23 nv_choices_23 h8_23 v_heights_23 nv_heights_23 h9_23 v_trail_23 nv_trail_23 := by
            intro f32 f33 f34 f35 f36
            unfold w_X1_proceed_115
            refine ok_X1_goBack (by omega) (by omega) (by omega) (by omega) (by omega) (by omega) (rp_mono b0 (by omega) (by omega)) (rp_mono b1 (by omega) (by omega)) (fun r116_0 r116_1 r116_2 r116_3 r116_4 r116_5 r116_6 r116_7 r116_8 r116_9 r116_10 r116_11 r116_12 r116_13 r116_14 f37 f38 f39 => ?_)
            exact j_119 v_steps_23 r116_0 r116_1 r116_2 r116_3 r116_4 r116_5 r116_6 r116_7 v_base_23 v_entry_23 r116_8 r116_9 r116_10 r116_11 r116_12 r116_13 r116_14 h9_23 v_trail_23 nv_trail_23 (by omega) (by omega) (by omega) (by omega) (by omega) (by omega) (by omega)
          refine ⟨fun c40_0 => ?_, fun c40_1 => ?_, fun c40_2 => ?_, fun c40_3 => ?_, fun c40_4 => ?_, ?_⟩
          · have f40 : v_mode_23.toInt = 0 := i_eq (a := v_mode_23.toInt) (b := 0) rfl rfl c40_0
            refine ok_X1_enter (by omega) (by omega) (by omega) (by omega) (by omega) (by omega) (by omega) (by omega) (by omega) (by omega) (rp_mono b0 (by omega) (by omega)) (rp_mono b1 (by omega) (by omega)) (fun r81_0 r81_1 r81_2 r81_3 r81_4 r81_5 r81_6 r81_7 r81_8 r81_9 r81_10 r81_11 r81_12 r81_13 r81_14 r81_15 r81_16 r81_17 r81_18 r81_19 f41 f42 f43 f44 f45 f46 => ?_)
            exact j_119 r81_0 v_start_23 r81_1 r81_2 r81_3 r81_4 r81_5 r81_6 r81_7 r81_8 r81_9 r81_10 r81_11 r81_12 r81_13 r81_14 r81_15 r81_16 r81_17 r81_18 r81_19 (by omega) (by omega) (by omega) (by omega) (by omega) (by omega) (by omega)
          · have f47 : v_mode_23.toInt = 1 := i_eq (a := v_mode_23.toInt) (b := 1) rfl rfl c40_1
            refine ok_X1_leave (by omega) (by omega) (by omega) (by omega) (rp_mono b0 (by omega) (by omega)) (rp_mono b1 (by omega) (by omega)) (fun r88_0 r88_1 r88_2 r88_3 r88_4 r88_5 r88_6 r88_7 r88_8 r88_9 f48 f49 f50 => ?_)
            exact j_119 v_steps_23 v_start_23 r88_0 r88_1 r88_2 r88_3 r88_4 r88_5 r88_6 v_base_23 v_entry_23 v_from_23 h7_23 v_choices_23 nv_choices_23 h8_23 v_heights_23 nv_heights_23 r88_7 r88_8 r88_9 (by omega) (by omega) (by omega) (by omega) (by omega) (by omega) (by omega)
          · have f51 : v_mode_23.toInt = 3 := i_eq (a := v_mode_23.toInt) (b := 3) rfl rfl c40_2
            refine ok_X1_comeToLoop (by omega) (by omega) (by omega) (by omega) (fun r95_0 r95_1 r95_2 r95_3 r95_4 r95_5 r95_6 r95_7 f52 f53 f54 f55 => ?_)
            exact j_119 v_steps_23 v_start_23 r95_0 v_node_23 v_place_23 v_verdict_23 r95_1 v_trailCount_23 v_cells_23 v_base_23 v_entry_23 v_from_23 r95_2 r95_3 r95_4 r95_5 r95_6 r95_7 h9_23 v_trail_23 nv_trail_23 (by omega) (by omega) (by omega) (by omega) (by omega) (by omega) (by omega)
          · have f56 : v_mode_23.toInt = 4 := i_eq (a := v_mode_23.toInt) (b := 4) rfl rfl c40_3
            refine ok_X1_turn (by omega) (by omega) (by omega) (rp_mono b0 (by omega) (by omega)) (fun r102_0 r102_1 r102_2 r102_3 r102_4 r102_5 r102_6 r102_7 r102_8 f57 f58 f59 f60 => ?_)
            exact j_119 r102_0 v_start_23 r102_1 r102_2 v_place_23 r102_3 v_choiceCount_23 r102_4 r102_5 v_base_23 v_entry_23 v_from_23 h7_23 v_choices_23 nv_choices_23 h8_23 v_heights_23 nv_heights_23 r102_6 r102_7 r102_8 (by omega) (by omega) (by omega) (by omega) (by omega) (by omega) (by omega)
          · have f61 : v_mode_23.toInt = 5 := i_eq (a := v_mode_23.toInt) (b := 5) rfl rfl c40_4
            refine ok_X1_tryFrom (by omega) (by omega) (by omega) (by omega) (rp_mono b0 (by omega) (by omega)) (fun r109_0 r109_1 r109_2 r109_3 r109_4 r109_5 r109_6 r109_7 r109_8 r109_9 r109_10 r109_11 f62 f63 f64 f65 f66 => ?_)
            exact j_119 r109_0 v_start_23 r109_1 r109_2 r109_3 r109_4 r109_5 v_trailCount_23 v_cells_23 v_base_23 v_entry_23 v_from_23 r109_6 r109_7 r109_8 r109_9 r109_10 r109_11 h9_23 v_trail_23 nv_trail_23 (by omega) (by omega) (by omega) (by omega) (by omega) (by omega) (by omega)
          · intro c40_0 c40_1 c40_2 c40_3 c40_4
            have f67 : v_mode_23.toInt ≠ 0 := i_ne (a := v_mode_23.toInt) (b := 0) rfl rfl c40_0
            have f68 : v_mode_23.toInt ≠ 1 := i_ne (a := v_mode_23.toInt) (b := 1) rfl rfl c40_1
            have f69 : v_mode_23.toInt ≠ 3 := i_ne (a := v_mode_23.toInt) (b := 3) rfl rfl c40_2
            have f70 : v_mode_23.toInt ≠ 4 := i_ne (a := v_mode_23.toInt) (b := 4) rfl rfl c40_3
            have f71 : v_mode_23.toInt ≠ 5 := i_ne (a := v_mode_23.toInt) (b := 5) rfl rfl c40_4
            exact j_115  (by omega) (by omega) (by omega) (by omega) (by omega)
  exact ⟨(1073741824 : Int).toNat + 1, j_23   ((1073741824 : Int).toNat + 1) 0 v_steps v_start v_mode v_node v_place 0 v_choiceCount v_trailCount v_cells v_base v_entry v_from h7 v_choices nv_choices h8 v_heights nv_heights h9 v_trail nv_trail  (by omega) (by omega) (by omega) (by omega) (by omega) (by omega) (by omega) (by omega)⟩
set_option maxHeartbeats 4000000 in
theorem ok_X11_goOn {p1 : Int32} {v_latestSteps : Int32} {v_openSlot : Int32} {v_openSubject : Int32} {v_spans_count : Int32} {v_spans_over : Bool} {v_spans_items : Nat → Int32} {nv_spans_items : Nat} {v_found_count : Int32} {v_found_over : Bool} {v_found_items : Nat → Int32} {nv_found_items : Nat} {v_goingBack_steps : Int32} {v_goingBack_wholeOnly : Bool} {v_goingBack_start : Int32} {v_goingBack_mode : Int32} {v_goingBack_node : Int32} {v_goingBack_place : Int32} {v_goingBack_limit : Int32} {v_goingBack_verdict : Int32} {v_goingBack_choiceCount : Int32} {v_goingBack_trailCount : Int32} {v_goingBack_cells : Nat → Int32} {v_goingBack_base : Nat → Int32} {v_goingBack_entry : Nat → Int32} {v_goingBack_from : Nat → Int32} {v_goingBack_choices : Nat → Int32} {nv_goingBack_choices : Nat} {v_goingBack_heights : Nat → Int32} {nv_goingBack_heights : Nat} {v_goingBack_trail : Nat → Int32} {nv_goingBack_trail : Nat} {v_patterns_0_count : Int32} {v_patterns_0_captures : Int32} {v_patterns_0_ranges : Int32} {v_patterns_0_sort : Nat → Int32} {v_patterns_0_holder : Nat → Int32} {v_patterns_0_end : Nat → Int32} {v_patterns_0_value : Nat → Int32} {v_patterns_0_low : Nat → Int32} {v_patterns_0_high : Nat → Int32} {v_patterns_0_withinCase : Nat → Bool} {v_patterns_0_rangeBegin : Nat → Int32} {v_patterns_0_rangeEnd : Nat → Int32} {v_subjects_0_count : Int32} {v_subjects_0_items : Nat → Int32} {nv_subjects_0_items : Nat} {h10 : Nat} {h11 : Nat} {h12 : Nat} {Q : Int32 → Int32 → Int32 → Int32 → Int32 → Bool → (Nat → Int32) → Int32 → Bool → (Nat → Int32) → Int32 → Int32 → Int32 → Int32 → Int32 → Int32 → Int32 → Int32 → Int32 → (Nat → Int32) → (Nat → Int32) → (Nat → Int32) → (Nat → Int32) → Nat → (Nat → Int32) → Nat → Nat → (Nat → Int32) → Nat → Nat → (Nat → Int32) → Nat → Prop} (a0 : 0 ≤ v_spans_count.toInt) (a1 : v_spans_count.toInt ≤ (nv_spans_items : Int)) (a2 : (nv_spans_items : Int) ≤ 1000) (a3 : 0 ≤ v_found_count.toInt) (a4 : v_found_count.toInt ≤ (nv_found_items : Int)) (a5 : (nv_found_items : Int) ≤ 1000) (a6 : (nv_goingBack_choices : Int) ≤ 524288) (a7 : (nv_goingBack_choices : Int) = (nv_goingBack_heights : Int)) (a8 : (nv_goingBack_trail : Int) ≤ 524288) (a9 : 0 ≤ v_patterns_0_count.toInt) (a10 : v_patterns_0_count.toInt ≤ 256) (a11 : 0 ≤ v_patterns_0_ranges.toInt) (a12 : v_patterns_0_ranges.toInt ≤ 512) (a13 : 0 ≤ v_subjects_0_count.toInt) (a14 : v_subjects_0_count.toInt ≤ (nv_subjects_0_items : Int)) (a15 : (nv_subjects_0_items : Int) ≤ 1000) (a16 : v_patterns_0_captures.toInt ≤ 9) (b0 : rp (fun k v => k < v ∧ v ≤ 256) v_patterns_0_end 0 v_patterns_0_count.toInt) (b1 : rp (fun k v => v < k ∧ -1 ≤ v) v_patterns_0_holder 0 v_patterns_0_count.toInt) (hq : ∀ (r : Int32) (ov_latestSteps : Int32) (ov_openSlot : Int32) (ov_openSubject : Int32) (ov_spans_count : Int32) (ov_spans_over : Bool) (ov_spans_items : Nat → Int32) (ov_found_count : Int32) (ov_found_over : Bool) (ov_found_items : Nat → Int32) (ov_goingBack_steps : Int32) (ov_goingBack_start : Int32) (ov_goingBack_mode : Int32) (ov_goingBack_node : Int32) (ov_goingBack_place : Int32) (ov_goingBack_limit : Int32) (ov_goingBack_verdict : Int32) (ov_goingBack_choiceCount : Int32) (ov_goingBack_trailCount : Int32) (ov_goingBack_cells : Nat → Int32) (ov_goingBack_base : Nat → Int32) (ov_goingBack_entry : Nat → Int32) (ov_goingBack_from : Nat → Int32) (oh10 : Nat) (ov_goingBack_choices : Nat → Int32) (onv_goingBack_choices : Nat) (oh11 : Nat) (ov_goingBack_heights : Nat → Int32) (onv_goingBack_heights : Nat) (oh12 : Nat) (ov_goingBack_trail : Nat → Int32) (onv_goingBack_trail : Nat), v_goingBack_steps.toInt ≤ ov_goingBack_steps.toInt → v_goingBack_start.toInt ≤ ov_goingBack_start.toInt → 0 ≤ r.toInt + 8 → r.toInt ≤ 2 → 0 ≤ ov_spans_count.toInt → ov_spans_count.toInt ≤ 1000 → 0 ≤ ov_found_count.toInt → ov_found_count.toInt ≤ 1000 → ov_spans_count.toInt ≤ (nv_spans_items : Int) → ov_found_count.toInt ≤ (nv_found_items : Int) → (onv_goingBack_choices : Int) ≤ 524288 → (onv_goingBack_choices : Int) = (onv_goingBack_heights : Int) → (onv_goingBack_trail : Int) ≤ 524288 → (ov_openSlot.toInt = -1 ∨ (ov_openSlot = v_openSlot)) → Q r ov_latestSteps ov_openSlot ov_openSubject ov_spans_count ov_spans_over ov_spans_items ov_found_count ov_found_over ov_found_items ov_goingBack_steps ov_goingBack_start ov_goingBack_mode ov_goingBack_node ov_goingBack_place ov_goingBack_limit ov_goingBack_verdict ov_goingBack_choiceCount ov_goingBack_trailCount ov_goingBack_cells ov_goingBack_base ov_goingBack_entry ov_goingBack_from oh10 ov_goingBack_choices onv_goingBack_choices oh11 ov_goingBack_heights onv_goingBack_heights oh12 ov_goingBack_trail onv_goingBack_trail) : w_X11_goOn p1 v_latestSteps v_openSlot v_openSubject v_spans_count v_spans_over v_spans_items nv_spans_items v_found_count v_found_over v_found_items nv_found_items v_goingBack_steps v_goingBack_wholeOnly v_goingBack_start v_goingBack_mode v_goingBack_node v_goingBack_place v_goingBack_limit v_goingBack_verdict v_goingBack_choiceCount v_goingBack_trailCount v_goingBack_cells v_goingBack_base v_goingBack_entry v_goingBack_from v_goingBack_choices nv_goingBack_choices v_goingBack_heights nv_goingBack_heights v_goingBack_trail nv_goingBack_trail v_patterns_0_count v_patterns_0_captures v_patterns_0_ranges v_patterns_0_sort v_patterns_0_holder v_patterns_0_end v_patterns_0_value v_patterns_0_low v_patterns_0_high v_patterns_0_withinCase v_patterns_0_rangeBegin v_patterns_0_rangeEnd v_subjects_0_count v_subjects_0_items nv_subjects_0_items h10 h11 h12 Q := by
  have q_t : (bz true).toInt = 1 := rfl
  have q_f : (bz false).toInt = 0 := rfl
  have q_m5 : ((-5) : Int32).toInt = (-5) := rfl
  have q_m4 : ((-4) : Int32).toInt = (-4) := rfl
  unfold w_X11_goOn
  refine ok_X11_isStepCount  (fun r1 f1 => ?_)
  refine ⟨fun c4 => ?_, fun c4 => ?_⟩
  · have f2 : r1.toInt ≠ 0 := i_ne (a := r1.toInt) (b := 0) rfl rfl c4
    refine ⟨fun c15 => ?_, fun c15 => ?_⟩
    · have f3 : v_openSlot.toInt ≠ (-1) := i_ne (a := v_openSlot.toInt) (b := (-1)) rfl rfl c15
      refine ok_X1_proceed (by omega) (by omega) (by omega) (by omega) (by omega) (by omega) (by omega) (by omega) (by omega) (by omega) (by omega) (by omega) (by omega) (by omega) (rp_mono b0 (by omega) (by omega)) (rp_mono b1 (by omega) (by omega)) (fun r30 r30_0 r30_1 r30_2 r30_3 r30_4 r30_5 r30_6 r30_7 r30_8 r30_9 r30_10 r30_11 r30_12 r30_13 r30_14 r30_15 r30_16 r30_17 r30_18 r30_19 r30_20 r30_21 r30_22 r30_23 r30_24 f4 f5 f6 f7 f8 f9 f10 f11 f12 f13 f14 => ?_)
      have j_54 : ∀ (v_openSlot_54 : Int32) (v_openSubject_54 : Int32), ((v_openSlot_54.toInt = v_openSlot.toInt ∧ v_openSubject_54.toInt = v_openSubject.toInt ∧ r30.toInt = 2) ∨ (v_openSlot_54.toInt + 1 = 0 ∧ v_openSubject_54.toInt + 1 = 0)) → (v_openSlot_54.toInt = -1 ∨ (v_openSlot_54 = v_openSlot)) → w_X11_goOn_54 nv_spans_items nv_found_items Q r30 r30_3 v_openSlot_54 v_openSubject_54 r30_0 r30_1 r30_2 v_found_count v_found_over v_found_items r30_3 r30_4 r30_5 r30_6 r30_7 r30_8 r30_9 r30_10 r30_11 r30_12 r30_13 r30_14 r30_15 r30_16 r30_17 r30_18 r30_19 r30_20 r30_21 r30_22 r30_23 r30_24 := by
        intro v_openSlot_54 v_openSubject_54 f15 u54_0
        unfold w_X11_goOn_54
        refine ok_X11_keepSpans (by omega) (by omega) (by omega) (by omega) (by omega) (by omega) (fun r56 r56_0 r56_1 r56_2 f16 f17 f18 => ?_)
        exact hq r56 r30_3 v_openSlot_54 v_openSubject_54 r30_0 r30_1 r30_2 r56_0 r56_1 r56_2 r30_3 r30_4 r30_5 r30_6 r30_7 r30_8 r30_9 r30_10 r30_11 r30_12 r30_13 r30_14 r30_15 r30_16 r30_17 r30_18 r30_19 r30_20 r30_21 r30_22 r30_23 r30_24 (by omega) (by omega) (by omega) (by omega) (by omega) (by omega) (by omega) (by omega) (by omega) (by omega) (by omega) (by omega) (by omega) (by first | assumption | exact Or.inl (by omega) | exact Or.inr ⟨rfl, rfl, rfl⟩ | exact Or.inr rfl | exact Or.inr (Or.inl ⟨rfl, rfl, rfl⟩) | exact Or.inr (Or.inr (u400098_0 (by omega))))
      refine ⟨fun c47 => ?_, fun c47 => ?_⟩
      · have f19 : r30.toInt = 2 := i_eq (a := r30.toInt) (b := 2) rfl rfl c47
        exact j_54 v_openSlot v_openSubject (by omega) (by first | assumption | exact Or.inl (by omega) | exact Or.inr ⟨rfl, rfl, rfl⟩ | exact Or.inr rfl | exact Or.inr (Or.inl ⟨rfl, rfl, rfl⟩) | exact Or.inr (Or.inr (u400098_0 (by omega))))
      · have f20 : r30.toInt ≠ 2 := i_ne (a := r30.toInt) (b := 2) rfl rfl c47
        refine ok_X11_endSearch  (fun r51_0 r51_1 f21 f22 => ?_)
        exact j_54 r51_0 r51_1 (by omega) (by first | assumption | exact Or.inl (by omega) | exact Or.inr ⟨rfl, rfl, rfl⟩ | exact Or.inr rfl | exact Or.inr (Or.inl ⟨rfl, rfl, rfl⟩) | exact Or.inr (Or.inr (u400098_0 (by omega))))
    · have f23 : v_openSlot.toInt = (-1) := i_eq (a := v_openSlot.toInt) (b := (-1)) rfl rfl c15
      exact hq (-5) v_latestSteps v_openSlot v_openSubject v_spans_count v_spans_over v_spans_items v_found_count v_found_over v_found_items v_goingBack_steps v_goingBack_start v_goingBack_mode v_goingBack_node v_goingBack_place v_goingBack_limit v_goingBack_verdict v_goingBack_choiceCount v_goingBack_trailCount v_goingBack_cells v_goingBack_base v_goingBack_entry v_goingBack_from h10 v_goingBack_choices nv_goingBack_choices h11 v_goingBack_heights nv_goingBack_heights h12 v_goingBack_trail nv_goingBack_trail (by omega) (by omega) (by omega) (by omega) (by omega) (by omega) (by omega) (by omega) (by omega) (by omega) (by omega) (by omega) (by omega) (by first | assumption | exact Or.inl (by omega) | exact Or.inr ⟨rfl, rfl, rfl⟩ | exact Or.inr rfl | exact Or.inr (Or.inl ⟨rfl, rfl, rfl⟩) | exact Or.inr (Or.inr (u400098_0 (by omega))))
  · have f24 : r1.toInt = 0 := i_eq (a := r1.toInt) (b := 0) rfl rfl c4
    exact hq (-4) v_latestSteps v_openSlot v_openSubject v_spans_count v_spans_over v_spans_items v_found_count v_found_over v_found_items v_goingBack_steps v_goingBack_start v_goingBack_mode v_goingBack_node v_goingBack_place v_goingBack_limit v_goingBack_verdict v_goingBack_choiceCount v_goingBack_trailCount v_goingBack_cells v_goingBack_base v_goingBack_entry v_goingBack_from h10 v_goingBack_choices nv_goingBack_choices h11 v_goingBack_heights nv_goingBack_heights h12 v_goingBack_trail nv_goingBack_trail (by omega) (by omega) (by omega) (by omega) (by omega) (by omega) (by omega) (by omega) (by omega) (by omega) (by omega) (by omega) (by omega) (by first | assumption | exact Or.inl (by omega) | exact Or.inr ⟨rfl, rfl, rfl⟩ | exact Or.inr rfl | exact Or.inr (Or.inl ⟨rfl, rfl, rfl⟩) | exact Or.inr (Or.inr (u400098_0 (by omega))))
set_option maxHeartbeats 4000000 in
theorem ok_X11_search {p3 : Int32} {p4 : Int32} {p5 : Int32} {p6 : Int32} {v_spans_count : Int32} {v_spans_over : Bool} {v_spans_items : Nat → Int32} {nv_spans_items : Nat} {v_goingBack_steps : Int32} {v_goingBack_wholeOnly : Bool} {v_goingBack_start : Int32} {v_goingBack_mode : Int32} {v_goingBack_node : Int32} {v_goingBack_place : Int32} {v_goingBack_limit : Int32} {v_goingBack_verdict : Int32} {v_goingBack_choiceCount : Int32} {v_goingBack_trailCount : Int32} {v_goingBack_cells : Nat → Int32} {v_goingBack_base : Nat → Int32} {v_goingBack_entry : Nat → Int32} {v_goingBack_from : Nat → Int32} {v_goingBack_choices : Nat → Int32} {nv_goingBack_choices : Nat} {v_goingBack_heights : Nat → Int32} {nv_goingBack_heights : Nat} {v_goingBack_trail : Nat → Int32} {nv_goingBack_trail : Nat} {v_parallel_width : Int32} {v_parallel_nowCount : Int32} {v_parallel_nextCount : Int32} {v_parallel_stamp : Int32} {v_parallel_stackCount : Int32} {v_parallel_program_start : Int32} {v_parallel_program_count : Int32} {v_parallel_program_kinds : Nat → Int32} {v_parallel_program_subjects : Nat → Int32} {v_parallel_program_nexts : Nat → Int32} {v_parallel_program_others : Nat → Int32} {v_parallel_edges : Nat → Bool} {v_parallel_nowAt : Nat → Int32} {v_parallel_nowCells : Nat → Int32} {v_parallel_nextAt : Nat → Int32} {v_parallel_nextCells : Nat → Int32} {v_parallel_seen : Nat → Int32} {v_parallel_waits : Nat → Int32} {v_parallel_cells : Nat → Int32} {v_parallel_stack : Nat → Int32} {v_parallel_kept : Nat → Int32} {a1_there : Bool} {a1_count : Int32} {a1_captures : Int32} {a1_ranges : Int32} {a1_sort : Nat → Int32} {a1_holder : Nat → Int32} {a1_end : Nat → Int32} {a1_before : Nat → Int32} {a1_last : Nat → Int32} {a1_value : Nat → Int32} {a1_low : Nat → Int32} {a1_high : Nat → Int32} {a1_withinCase : Nat → Bool} {a1_rangeBegin : Nat → Int32} {a1_rangeEnd : Nat → Int32} {a2_count : Int32} {a2_items : Nat → Int32} {na2_items : Nat} {h50 : Nat} {h51 : Nat} {h10 : Nat} {h11 : Nat} {h12 : Nat} {h52 : Nat} {h53 : Nat} {h20 : Nat} {h21 : Nat} {h22 : Nat} {h23 : Nat} {h1 : Nat} {h2 : Nat} {Q : Int32 → Int32 → Int32 → Int32 → Int32 → Bool → (Nat → Int32) → Int32 → Nat → Nat → Bool → Int32 → Int32 → Int32 → Int32 → Int32 → Int32 → Int32 → Int32 → (Nat → Int32) → (Nat → Int32) → (Nat → Int32) → (Nat → Int32) → Nat → (Nat → Int32) → Nat → Nat → (Nat → Int32) → Nat → Nat → (Nat → Int32) → Nat → Nat → Int32 → Int32 → Int32 → Int32 → Int32 → Int32 → Int32 → Nat → (Nat → Int32) → (Nat → Int32) → (Nat → Int32) → (Nat → Int32) → (Nat → Bool) → Nat → (Nat → Int32) → Nat → (Nat → Int32) → Nat → (Nat → Int32) → Nat → (Nat → Int32) → (Nat → Int32) → (Nat → Int32) → (Nat → Int32) → (Nat → Int32) → (Nat → Int32) → Prop} (a0 : 0 ≤ v_spans_count.toInt) (a1 : v_spans_count.toInt ≤ (nv_spans_items : Int)) (a2 : (nv_spans_items : Int) ≤ 1000) (a3 : (nv_goingBack_choices : Int) ≤ 524288) (a4 : (nv_goingBack_choices : Int) = (nv_goingBack_heights : Int)) (a5 : (nv_goingBack_trail : Int) ≤ 524288) (a6 : 0 ≤ v_parallel_program_count.toInt) (a7 : v_parallel_program_count.toInt ≤ 512) (a8 : 0 ≤ a1_count.toInt) (a9 : a1_count.toInt ≤ 256) (a10 : 0 ≤ a1_ranges.toInt) (a11 : a1_ranges.toInt ≤ 512) (a12 : 0 ≤ a2_count.toInt) (a13 : a2_count.toInt ≤ (na2_items : Int)) (a14 : (na2_items : Int) ≤ 1000) (a15 : 0 ≤ p6.toInt) (a16 : p6.toInt ≤ 1) (a17 : a1_captures.toInt ≤ 9) (b0 : rp (fun k v => -1 ≤ v ∧ v ≤ 255) a1_last 0 a1_count.toInt) (b1 : rp (fun k v => k < v ∧ v ≤ 256) a1_end 0 a1_count.toInt) (b2 : rp (fun k v => v < k ∧ -1 ≤ v) a1_holder 0 a1_count.toInt) (b3 : rp (fun k v => v < k ∧ -1 ≤ v) a1_before 0 a1_count.toInt) (hq : ∀ (r : Int32) (ov_latestSteps : Int32) (ov_openSlot : Int32) (ov_openSubject : Int32) (ov_spans_count : Int32) (ov_spans_over : Bool) (ov_spans_items : Nat → Int32) (ov_goingBack_steps : Int32) (oh50 : Nat) (oh51 : Nat) (ov_goingBack_wholeOnly : Bool) (ov_goingBack_start : Int32) (ov_goingBack_mode : Int32) (ov_goingBack_node : Int32) (ov_goingBack_place : Int32) (ov_goingBack_limit : Int32) (ov_goingBack_verdict : Int32) (ov_goingBack_choiceCount : Int32) (ov_goingBack_trailCount : Int32) (ov_goingBack_cells : Nat → Int32) (ov_goingBack_base : Nat → Int32) (ov_goingBack_entry : Nat → Int32) (ov_goingBack_from : Nat → Int32) (oh10 : Nat) (ov_goingBack_choices : Nat → Int32) (onv_goingBack_choices : Nat) (oh11 : Nat) (ov_goingBack_heights : Nat → Int32) (onv_goingBack_heights : Nat) (oh12 : Nat) (ov_goingBack_trail : Nat → Int32) (onv_goingBack_trail : Nat) (oh52 : Nat) (ov_parallel_width : Int32) (ov_parallel_nowCount : Int32) (ov_parallel_nextCount : Int32) (ov_parallel_stamp : Int32) (ov_parallel_stackCount : Int32) (ov_parallel_program_start : Int32) (ov_parallel_program_count : Int32) (oh53 : Nat) (ov_parallel_program_kinds : Nat → Int32) (ov_parallel_program_subjects : Nat → Int32) (ov_parallel_program_nexts : Nat → Int32) (ov_parallel_program_others : Nat → Int32) (ov_parallel_edges : Nat → Bool) (oh20 : Nat) (ov_parallel_nowAt : Nat → Int32) (oh21 : Nat) (ov_parallel_nowCells : Nat → Int32) (oh22 : Nat) (ov_parallel_nextAt : Nat → Int32) (oh23 : Nat) (ov_parallel_nextCells : Nat → Int32) (ov_parallel_seen : Nat → Int32) (ov_parallel_waits : Nat → Int32) (ov_parallel_cells : Nat → Int32) (ov_parallel_stack : Nat → Int32) (ov_parallel_kept : Nat → Int32), ov_openSlot.toInt + 1 = 0 → ov_openSubject.toInt + 1 = 0 → 0 ≤ ov_spans_count.toInt → ov_spans_count.toInt ≤ (nv_spans_items : Int) → 0 ≤ r.toInt + 8 → r.toInt ≤ 2 → 0 ≤ ov_latestSteps.toInt → 0 ≤ ov_parallel_program_count.toInt → ov_parallel_program_count.toInt ≤ 512 → (onv_goingBack_choices : Int) ≤ 524288 → (onv_goingBack_choices : Int) = (onv_goingBack_heights : Int) → (onv_goingBack_trail : Int) ≤ 524288 → (r.toInt = 2 → oh50 = h1 ∧ oh51 = h2) → Q r ov_latestSteps ov_openSlot ov_openSubject ov_spans_count ov_spans_over ov_spans_items ov_goingBack_steps oh50 oh51 ov_goingBack_wholeOnly ov_goingBack_start ov_goingBack_mode ov_goingBack_node ov_goingBack_place ov_goingBack_limit ov_goingBack_verdict ov_goingBack_choiceCount ov_goingBack_trailCount ov_goingBack_cells ov_goingBack_base ov_goingBack_entry ov_goingBack_from oh10 ov_goingBack_choices onv_goingBack_choices oh11 ov_goingBack_heights onv_goingBack_heights oh12 ov_goingBack_trail onv_goingBack_trail oh52 ov_parallel_width ov_parallel_nowCount ov_parallel_nextCount ov_parallel_stamp ov_parallel_stackCount ov_parallel_program_start ov_parallel_program_count oh53 ov_parallel_program_kinds ov_parallel_program_subjects ov_parallel_program_nexts ov_parallel_program_others ov_parallel_edges oh20 ov_parallel_nowAt oh21 ov_parallel_nowCells oh22 ov_parallel_nextAt oh23 ov_parallel_nextCells ov_parallel_seen ov_parallel_waits ov_parallel_cells ov_parallel_stack ov_parallel_kept) : w_X11_search p3 p4 p5 p6 v_spans_count v_spans_over v_spans_items nv_spans_items v_goingBack_steps v_goingBack_wholeOnly v_goingBack_start v_goingBack_mode v_goingBack_node v_goingBack_place v_goingBack_limit v_goingBack_verdict v_goingBack_choiceCount v_goingBack_trailCount v_goingBack_cells v_goingBack_base v_goingBack_entry v_goingBack_from v_goingBack_choices nv_goingBack_choices v_goingBack_heights nv_goingBack_heights v_goingBack_trail nv_goingBack_trail v_parallel_width v_parallel_nowCount v_parallel_nextCount v_parallel_stamp v_parallel_stackCount v_parallel_program_start v_parallel_program_count v_parallel_program_kinds v_parallel_program_subjects v_parallel_program_nexts v_parallel_program_others v_parallel_edges v_parallel_nowAt v_parallel_nowCells v_parallel_nextAt v_parallel_nextCells v_parallel_seen v_parallel_waits v_parallel_cells v_parallel_stack v_parallel_kept a1_there a1_count a1_captures a1_ranges a1_sort a1_holder a1_end a1_before a1_last a1_value a1_low a1_high a1_withinCase a1_rangeBegin a1_rangeEnd a2_count a2_items na2_items h50 h51 h10 h11 h12 h52 h53 h20 h21 h22 h23 h1 h2 Q := by
  have q_t : (bz true).toInt = 1 := rfl
  have q_f : (bz false).toInt = 0 := rfl
  have q_0 : (0 : Int32).toInt = 0 := rfl
  have q_1 : (1 : Int32).toInt = 1 := rfl
  unfold w_X11_search
  refine ok_X11_endSearch  (fun r1_0 r1_1 f1 f2 => ?_)
  refine ⟨fun c11 => ?_, fun c11 => ?_⟩
  · have f3 : p4.toInt = 0 := i_eq (a := p4.toInt) (b := 0) rfl rfl c11
    refine ok_X1_begin_v1 (by omega) (by omega) (fun r48_0 r48_1 r48_2 r48_3 r48_4 r48_5 r48_6 r48_7 r48_8 f4 f5 f6 f7 f8 f9 f10 f11 => ?_)
    refine ok_X1_proceed (by omega) (by omega) (by omega) (by omega) (by omega) (by omega) (by omega) (by omega) (by omega) (by omega) (by omega) (by omega) (by omega) (by omega) (rp_mono b1 (by omega) (by omega)) (rp_mono b2 (by omega) (by omega)) (fun r200061 r200061_0 r200061_1 r200061_2 r200061_3 r200061_4 r200061_5 r200061_6 r200061_7 r200061_8 r200061_9 r200061_10 r200061_11 r200061_12 r200061_13 r200061_14 r200061_15 r200061_16 r200061_17 r200061_18 r200061_19 r200061_20 r200061_21 r200061_22 r200061_23 r200061_24 f12 f13 f14 f15 f16 f17 f18 f19 f20 f21 f22 => ?_)
    exact hq r200061 r200061_3 r1_0 r1_1 r200061_0 r200061_1 r200061_2 r200061_3 h1 h2 r48_1 r200061_4 r200061_5 r200061_6 r200061_7 r200061_8 r200061_9 r200061_10 r200061_11 r200061_12 r200061_13 r200061_14 r200061_15 r200061_16 r200061_17 r200061_18 r200061_19 r200061_20 r200061_21 r200061_22 r200061_23 r200061_24 h52 v_parallel_width v_parallel_nowCount v_parallel_nextCount v_parallel_stamp v_parallel_stackCount v_parallel_program_start v_parallel_program_count h53 v_parallel_program_kinds v_parallel_program_subjects v_parallel_program_nexts v_parallel_program_others v_parallel_edges h20 v_parallel_nowAt h21 v_parallel_nowCells h22 v_parallel_nextAt h23 v_parallel_nextCells v_parallel_seen v_parallel_waits v_parallel_cells v_parallel_stack v_parallel_kept (by omega) (by omega) (by omega) (by omega) (by omega) (by omega) (by omega) (by omega) (by omega) (by omega) (by omega) (by omega) (by exact fun _ => ⟨rfl, rfl⟩)
  · have f23 : p4.toInt ≠ 0 := i_ne (a := p4.toInt) (b := 0) rfl rfl c11
    refine ok_X3_run_v1 (by omega) (by omega) (by omega) (by omega) (by omega) (by omega) (by omega) (by omega) (by omega) (by omega) (by omega) (by omega) (rp_mono b0 (by omega) (by omega)) (rp_mono b1 (by omega) (by omega)) (rp_mono b3 (by omega) (by omega)) (fun r27 r27_0 r27_1 r27_2 r27_3 r27_4 r27_5 r27_6 r27_7 r27_8 r27_9 r27_10 r27_11 r27_12 r27_13 r27_14 r27_15 r27_16 r27_17 r27_18 r27_19 r27_20 r27_21 r27_22 r27_23 r27_24 r27_25 r27_26 r27_27 f24 f25 f26 f27 f28 f29 f30 f31 => ?_)
    have j_100038 : ∀ (s0_100038 : Int32), ((s0_100038.toInt = 0 ∧ r27.toInt = 0) ∨ (s0_100038.toInt = 1)) → w_X11_search_100038 h50 h51 h1 h2 Q s0_100038 0 r1_0 r1_1 r27_0 r27_1 r27_2 v_goingBack_steps v_goingBack_wholeOnly v_goingBack_start v_goingBack_mode v_goingBack_node v_goingBack_place v_goingBack_limit v_goingBack_verdict v_goingBack_choiceCount v_goingBack_trailCount v_goingBack_cells v_goingBack_base v_goingBack_entry v_goingBack_from h10 v_goingBack_choices nv_goingBack_choices h11 v_goingBack_heights nv_goingBack_heights h12 v_goingBack_trail nv_goingBack_trail r27_3 r27_4 r27_5 r27_6 r27_7 r27_8 r27_9 r27_10 r27_11 r27_12 r27_13 r27_14 r27_15 r27_16 r27_17 r27_18 r27_19 r27_20 r27_21 r27_22 r27_23 r27_24 r27_25 r27_26 r27_27 := by
      intro s0_100038 f32
      unfold w_X11_search_100038
      exact hq s0_100038 0 r1_0 r1_1 r27_0 r27_1 r27_2 v_goingBack_steps h50 h51 v_goingBack_wholeOnly v_goingBack_start v_goingBack_mode v_goingBack_node v_goingBack_place v_goingBack_limit v_goingBack_verdict v_goingBack_choiceCount v_goingBack_trailCount v_goingBack_cells v_goingBack_base v_goingBack_entry v_goingBack_from h10 v_goingBack_choices nv_goingBack_choices h11 v_goingBack_heights nv_goingBack_heights h12 v_goingBack_trail nv_goingBack_trail h2 r27_3 r27_4 r27_5 r27_6 r27_7 r27_8 r27_9 h1 r27_10 r27_11 r27_12 r27_13 r27_14 r27_15 r27_16 r27_17 r27_18 r27_19 r27_20 r27_21 r27_22 r27_23 r27_24 r27_25 r27_26 r27_27 (by omega) (by omega) (by omega) (by omega) (by omega) (by omega) (by omega) (by omega) (by omega) (by omega) (by omega) (by omega) (by exact fun z => absurd z (by omega))
    refine ⟨fun c100030 => ?_, fun c100030 => ?_⟩
    · have f33 : r27.toInt = 0 := i_eq (a := r27.toInt) (b := 0) rfl rfl c100030
      exact j_100038 0 (by omega)
    · have f34 : r27.toInt ≠ 0 := i_ne (a := r27.toInt) (b := 0) rfl rfl c100030
      exact j_100038 1 (by omega)
