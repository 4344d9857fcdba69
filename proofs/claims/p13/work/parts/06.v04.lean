set_option maxHeartbeats 4000000 in
theorem ok_X4_isMark {p0 : Int32} {Q : Int32 → Prop} (hq : ∀ (r : Int32), ((r.toInt = 0) ∨ (r.toInt = 1)) → Q r) : w_X4_isMark p0 Q := by
  have q_t : (bz true).toInt = 1 := rfl
  have q_f : (bz false).toInt = 0 := rfl
  have q_0 : (0 : Int32).toInt = 0 := rfl
  have q_1 : (1 : Int32).toInt = 1 := rfl
  unfold w_X4_isMark
  have j_76 : w_X4_isMark_76 Q := by
    unfold w_X4_isMark_76
    exact hq 1 (by omega)
  refine ⟨fun c1_0 => ?_, fun c1_1 => ?_, fun c1_2 => ?_, fun c1_3 => ?_, fun c1_4 => ?_, fun c1_5 => ?_, fun c1_6 => ?_, fun c1_7 => ?_, ?_⟩
  · have f1 : p0.toInt = 33 := i_eq (a := p0.toInt) (b := 33) rfl rfl c1_0
    exact j_76  
  · have f2 : p0.toInt = 35 := i_eq (a := p0.toInt) (b := 35) rfl rfl c1_1
    exact j_76  
  · have f3 : p0.toInt = 37 := i_eq (a := p0.toInt) (b := 37) rfl rfl c1_2
    exact j_76  
  · have f4 : p0.toInt = 58 := i_eq (a := p0.toInt) (b := 58) rfl rfl c1_3
    exact j_76  
  · have f5 : p0.toInt = 60 := i_eq (a := p0.toInt) (b := 60) rfl rfl c1_4
    exact j_76  
  · have f6 : p0.toInt = 61 := i_eq (a := p0.toInt) (b := 61) rfl rfl c1_5
    exact j_76  
  · have f7 : p0.toInt = 64 := i_eq (a := p0.toInt) (b := 64) rfl rfl c1_6
    exact j_76  
  · have f8 : p0.toInt = 126 := i_eq (a := p0.toInt) (b := 126) rfl rfl c1_7
    exact j_76  
  · intro c1_0 c1_1 c1_2 c1_3 c1_4 c1_5 c1_6 c1_7
    have f9 : p0.toInt ≠ 33 := i_ne (a := p0.toInt) (b := 33) rfl rfl c1_0
    have f10 : p0.toInt ≠ 35 := i_ne (a := p0.toInt) (b := 35) rfl rfl c1_1
    have f11 : p0.toInt ≠ 37 := i_ne (a := p0.toInt) (b := 37) rfl rfl c1_2
    have f12 : p0.toInt ≠ 58 := i_ne (a := p0.toInt) (b := 58) rfl rfl c1_3
    have f13 : p0.toInt ≠ 60 := i_ne (a := p0.toInt) (b := 60) rfl rfl c1_4
    have f14 : p0.toInt ≠ 61 := i_ne (a := p0.toInt) (b := 61) rfl rfl c1_5
    have f15 : p0.toInt ≠ 64 := i_ne (a := p0.toInt) (b := 64) rfl rfl c1_6
    have f16 : p0.toInt ≠ 126 := i_ne (a := p0.toInt) (b := 126) rfl rfl c1_7
    exact hq 0 (by omega)
set_option maxHeartbeats 4000000 in
theorem ok_X4_markOfLook {p0 : Int32} {Q : Int32 → Prop} (hq : ∀ (r : Int32), 32 ≤ r.toInt → r.toInt ≤ 126 → Q r) : w_X4_markOfLook p0 Q := by
  have q_t : (bz true).toInt = 1 := rfl
  have q_f : (bz false).toInt = 0 := rfl
  have q_33 : (33 : Int32).toInt = 33 := rfl
  have q_60 : (60 : Int32).toInt = 60 := rfl
  have q_61 : (61 : Int32).toInt = 61 := rfl
  have q_126 : (126 : Int32).toInt = 126 := rfl
  unfold w_X4_markOfLook
  refine ⟨fun c1_0 => ?_, fun c1_1 => ?_, fun c1_2 => ?_, ?_⟩
  · have f1 : p0.toInt = 0 := i_eq (a := p0.toInt) (b := 0) rfl rfl c1_0
    exact hq 61 (by omega) (by omega)
  · have f2 : p0.toInt = 1 := i_eq (a := p0.toInt) (b := 1) rfl rfl c1_1
    exact hq 33 (by omega) (by omega)
  · have f3 : p0.toInt = 2 := i_eq (a := p0.toInt) (b := 2) rfl rfl c1_2
    exact hq 60 (by omega) (by omega)
  · intro c1_0 c1_1 c1_2
    have f4 : p0.toInt ≠ 0 := i_ne (a := p0.toInt) (b := 0) rfl rfl c1_0
    have f5 : p0.toInt ≠ 1 := i_ne (a := p0.toInt) (b := 1) rfl rfl c1_1
    have f6 : p0.toInt ≠ 2 := i_ne (a := p0.toInt) (b := 2) rfl rfl c1_2
    exact hq 126 (by omega) (by omega)
set_option maxHeartbeats 4000000 in
theorem ok_X4_isGrouped {p0 : Int32} {p1 : Int32} {p2 : Int32} {Q : Int32 → Prop} (hq : ∀ (r : Int32), 0 ≤ r.toInt → r.toInt ≤ 1 → Q r) : w_X4_isGrouped p0 p1 p2 Q := by
  have q_t : (bz true).toInt = 1 := rfl
  have q_f : (bz false).toInt = 0 := rfl
  have q_0 : (0 : Int32).toInt = 0 := rfl
  have q_1 : (1 : Int32).toInt = 1 := rfl
  unfold w_X4_isGrouped
  refine ⟨fun c2 => ?_, fun c2 => ?_⟩
  · have f1 : p2.toInt ≠ (-1) := i_ne (a := p2.toInt) (b := (-1)) rfl rfl c2
    refine ⟨fun c8_0 => ?_, fun c8_1 => ?_, fun c8_2 => ?_, ?_⟩
    · have f2 : p0.toInt = 5 := i_eq (a := p0.toInt) (b := 5) rfl rfl c8_0
      have j_52 : ∀ (s0_52 : Int32), ((s0_52.toInt = 0) ∨ (s0_52.toInt = 1)) → w_X4_isGrouped_52 Q s0_52 := by
        intro s0_52 f3
        unfold w_X4_isGrouped_52
        refine ⟨i_01 (by omega) (by omega), ?_⟩
        exact hq s0_52 (by omega) (by omega)
      have j_47 : ((p1.toInt = 5) ∨ (p1.toInt = 7)) → w_X4_isGrouped_47 Q := by
        intro f4
        unfold w_X4_isGrouped_47
        exact j_52 1 (by omega)
      refine ⟨fun c38 => ?_, fun c38 => ?_⟩
      · have f5 : p1.toInt = 5 := i_eq (a := p1.toInt) (b := 5) rfl rfl c38
        exact j_47  (by omega)
      · have f6 : p1.toInt ≠ 5 := i_ne (a := p1.toInt) (b := 5) rfl rfl c38
        refine ⟨fun c44 => ?_, fun c44 => ?_⟩
        · have f7 : p1.toInt ≠ 7 := i_ne (a := p1.toInt) (b := 7) rfl rfl c44
          exact j_52 0 (by omega)
        · have f8 : p1.toInt = 7 := i_eq (a := p1.toInt) (b := 7) rfl rfl c44
          exact j_47  (by omega)
    · have f9 : p0.toInt = 6 := i_eq (a := p0.toInt) (b := 6) rfl rfl c8_1
      have j_75 : ∀ (s0_75 : Int32), ((s0_75.toInt = 0) ∨ (s0_75.toInt = 1)) → w_X4_isGrouped_75 Q s0_75 := by
        intro s0_75 f10
        unfold w_X4_isGrouped_75
        refine ⟨i_01 (by omega) (by omega), ?_⟩
        exact hq s0_75 (by omega) (by omega)
      have j_70 : ((p1.toInt = 5) ∨ (p1.toInt = 7) ∨ (p1.toInt = 6)) → w_X4_isGrouped_70 Q := by
        intro f11
        unfold w_X4_isGrouped_70
        exact j_75 1 (by omega)
      refine ⟨fun c55 => ?_, fun c55 => ?_⟩
      · have f12 : p1.toInt = 5 := i_eq (a := p1.toInt) (b := 5) rfl rfl c55
        exact j_70  (by omega)
      · have f13 : p1.toInt ≠ 5 := i_ne (a := p1.toInt) (b := 5) rfl rfl c55
        refine ⟨fun c61 => ?_, fun c61 => ?_⟩
        · have f14 : p1.toInt = 7 := i_eq (a := p1.toInt) (b := 7) rfl rfl c61
          exact j_70  (by omega)
        · have f15 : p1.toInt ≠ 7 := i_ne (a := p1.toInt) (b := 7) rfl rfl c61
          refine ⟨fun c67 => ?_, fun c67 => ?_⟩
          · have f16 : p1.toInt ≠ 6 := i_ne (a := p1.toInt) (b := 6) rfl rfl c67
            exact j_75 0 (by omega)
          · have f17 : p1.toInt = 6 := i_eq (a := p1.toInt) (b := 6) rfl rfl c67
            exact j_70  (by omega)
    · have f18 : p0.toInt = 7 := i_eq (a := p0.toInt) (b := 7) rfl rfl c8_2
      have j_87 : ∀ (s0_87 : Int32), ((s0_87.toInt = 0) ∨ (s0_87.toInt = 1 ∧ p1.toInt = 7)) → w_X4_isGrouped_87 Q s0_87 := by
        intro s0_87 f19
        unfold w_X4_isGrouped_87
        refine ⟨i_01 (by omega) (by omega), ?_⟩
        exact hq s0_87 (by omega) (by omega)
      refine ⟨fun c79 => ?_, fun c79 => ?_⟩
      · have f20 : p1.toInt ≠ 7 := i_ne (a := p1.toInt) (b := 7) rfl rfl c79
        exact j_87 0 (by omega)
      · have f21 : p1.toInt = 7 := i_eq (a := p1.toInt) (b := 7) rfl rfl c79
        exact j_87 1 (by omega)
    · intro c8_0 c8_1 c8_2
      have f22 : p0.toInt ≠ 5 := i_ne (a := p0.toInt) (b := 5) rfl rfl c8_0
      have f23 : p0.toInt ≠ 6 := i_ne (a := p0.toInt) (b := 6) rfl rfl c8_1
      have f24 : p0.toInt ≠ 7 := i_ne (a := p0.toInt) (b := 7) rfl rfl c8_2
      exact hq 0 (by omega) (by omega)
  · have f25 : p2.toInt = (-1) := i_eq (a := p2.toInt) (b := (-1)) rfl rfl c2
    exact hq 0 (by omega) (by omega)
set_option maxHeartbeats 4000000 in
theorem ok_X4_writeEdge {p1 : Int32} {v_row_count : Int32} {v_row_over : Bool} {v_row_items : Nat → Int32} {nv_row_items : Nat} {Q : Int32 → Bool → (Nat → Int32) → Prop} (a0 : 0 ≤ v_row_count.toInt) (a1 : v_row_count.toInt ≤ (nv_row_items : Int)) (a2 : (nv_row_items : Int) ≤ 1000) (hq : ∀ (ov_row_count : Int32) (ov_row_over : Bool) (ov_row_items : Nat → Int32), 0 ≤ ov_row_count.toInt → ov_row_count.toInt ≤ (nv_row_items : Int) → v_row_count.toInt ≤ ov_row_count.toInt → ((p1.toInt ≤ 1 ∧ v_row_count.toInt ≤ ov_row_count.toInt) ∨ (2 ≤ p1.toInt)) → Q ov_row_count ov_row_over ov_row_items) : w_X4_writeEdge p1 v_row_count v_row_over v_row_items nv_row_items Q := by
  have q_t : (bz true).toInt = 1 := rfl
  have q_f : (bz false).toInt = 0 := rfl
  have q_36 : (36 : Int32).toInt = 36 := rfl
  have q_66 : (66 : Int32).toInt = 66 := rfl
  have q_92 : (92 : Int32).toInt = 92 := rfl
  have q_94 : (94 : Int32).toInt = 94 := rfl
  have q_98 : (98 : Int32).toInt = 98 := rfl
  unfold w_X4_writeEdge
  have j_54 : ∀ (v_row_count_54 : Int32) (v_row_over_54 : Bool) (v_row_items_54 : Nat → Int32), 0 ≤ v_row_count_54.toInt → v_row_count_54.toInt ≤ (nv_row_items : Int) → v_row_count.toInt ≤ v_row_count_54.toInt → ((p1.toInt ≤ 1 ∧ v_row_count.toInt ≤ v_row_count_54.toInt) ∨ (2 ≤ p1.toInt)) → w_X4_writeEdge_54 Q v_row_count_54 v_row_over_54 v_row_items_54 := by
    intro v_row_count_54 v_row_over_54 v_row_items_54 f1 f2 f3 f4
    unfold w_X4_writeEdge_54
    exact hq v_row_count_54 v_row_over_54 v_row_items_54 (by omega) (by omega) (by omega) (by omega)
  refine ⟨fun c2 => ?_, fun c2 => ?_⟩
  · have f5 : 2 ≤ p1.toInt := i_le (a := 2) (b := p1.toInt) rfl rfl c2
    refine ok_X7_add (by omega) (by omega) (by omega) (fun r32_0 r32_1 r32_2 f6 f7 f8 f9 => ?_)
    have j_51 : ∀ (s0_51 : Int32), ((s0_51.toInt = 66) ∨ (s0_51.toInt = 98 ∧ p1.toInt = 2)) → w_X4_writeEdge_51 nv_row_items Q s0_51 r32_0 r32_1 r32_2 := by
      intro s0_51 f10
      unfold w_X4_writeEdge_51
      refine ok_X7_add (by omega) (by omega) (by omega) (fun r51_0 r51_1 r51_2 f11 f12 f13 f14 => ?_)
      exact j_54 r51_0 r51_1 r51_2 (by omega) (by omega) (by omega) (by omega)
    refine ⟨fun c41 => ?_, fun c41 => ?_⟩
    · have f15 : p1.toInt ≠ 2 := i_ne (a := p1.toInt) (b := 2) rfl rfl c41
      exact j_51 66 (by omega)
    · have f16 : p1.toInt = 2 := i_eq (a := p1.toInt) (b := 2) rfl rfl c41
      exact j_51 98 (by omega)
  · have f17 : p1.toInt < 2 := i_nle (a := 2) (b := p1.toInt) rfl rfl c2
    have j_20 : ∀ (s0_20 : Int32), ((s0_20.toInt = 36) ∨ (s0_20.toInt = 94 ∧ p1.toInt = 0)) → w_X4_writeEdge_20 nv_row_items Q s0_20 v_row_count v_row_over v_row_items := by
      intro s0_20 f18
      unfold w_X4_writeEdge_20
      refine ok_X7_add (by omega) (by omega) (by omega) (fun r20_0 r20_1 r20_2 f19 f20 f21 f22 => ?_)
      exact j_54 r20_0 r20_1 r20_2 (by omega) (by omega) (by omega) (by omega)
    refine ⟨fun c10 => ?_, fun c10 => ?_⟩
    · have f23 : p1.toInt ≠ 0 := i_ne (a := p1.toInt) (b := 0) rfl rfl c10
      exact j_20 36 (by omega)
    · have f24 : p1.toInt = 0 := i_eq (a := p1.toInt) (b := 0) rfl rfl c10
      exact j_20 94 (by omega)
set_option maxHeartbeats 4000000 in
theorem ok_X4_writeCode {p1 : Int32} {v_row_count : Int32} {v_row_over : Bool} {v_row_items : Nat → Int32} {nv_row_items : Nat} {Q : Int32 → Bool → (Nat → Int32) → Prop} (a0 : 0 ≤ v_row_count.toInt) (a1 : v_row_count.toInt ≤ (nv_row_items : Int)) (a2 : (nv_row_items : Int) ≤ 1000) (hq : ∀ (ov_row_count : Int32) (ov_row_over : Bool) (ov_row_items : Nat → Int32), 0 ≤ ov_row_count.toInt + 1 → 0 ≤ ov_row_count.toInt → ov_row_count.toInt ≤ 1000 → ov_row_count.toInt ≤ (nv_row_items : Int) → v_row_count.toInt ≤ ov_row_count.toInt → Q ov_row_count ov_row_over ov_row_items) : w_X4_writeCode p1 v_row_count v_row_over v_row_items nv_row_items Q := by
  have q_t : (bz true).toInt = 1 := rfl
  have q_f : (bz false).toInt = 0 := rfl
  have q_12 : (12 : Int32).toInt = 12 := rfl
  have q_92 : (92 : Int32).toInt = 92 := rfl
  have q_120 : (120 : Int32).toInt = 120 := rfl
  unfold w_X4_writeCode
  refine ok_X7_add (by omega) (by omega) (by omega) (fun r6_0 r6_1 r6_2 f1 f2 f3 f4 => ?_)
  refine ok_X7_add (by omega) (by omega) (by omega) (fun r15_0 r15_1 r15_2 f5 f6 f7 f8 => ?_)
  have j_21 : ∀ n_21 : Nat, ∀ (l2_21 : Int32) (v_row_count_21 : Int32) (v_row_over_21 : Bool) (v_row_items_21 : Nat → Int32), l2_21.toInt ≤ 12 → r15_0.toInt ≤ v_row_count_21.toInt → v_row_count_21.toInt ≤ (nv_row_items : Int) → (l2_21.toInt + 2147483649).toNat < n_21 → w_X4_writeCode_21 p1 nv_row_items Q n_21 l2_21 v_row_count_21 v_row_over_21 v_row_items_21 := by
    intro n_21
    induction n_21 with
    | zero =>
      intro l2_21 v_row_count_21 v_row_over_21 v_row_items_21 f9 f10 f11 hm_21
      exfalso; omega
    | succ n_21 ih_21 =>
      intro l2_21 v_row_count_21 v_row_over_21 v_row_items_21 f9 f10 f11 hm_21
      unfold w_X4_writeCode_21
      unfold w_X4_writeCode_21B
      refine ⟨fun c22 => ?_, fun c22 => ?_⟩
      · have f12 : l2_21.toInt < 0 := i_lt (a := l2_21.toInt) (b := 0) rfl rfl c22
        exact hq v_row_count_21 v_row_over_21 v_row_items_21 (by omega) (by omega) (by omega) (by omega) (by omega)
      · have f13 : 0 ≤ l2_21.toInt := i_nlt (a := l2_21.toInt) (b := 0) rfl rfl c22
        intro x27 ex27
        intro x30 ex30
        have f14 : (0 ≤ x30.toInt ∧ x30.toInt ≤ 15) := i_andr ex30 (by decide)
        have j_56 : ∀ (s0_56 : Int32), ((10 ≤ x30.toInt ∧ s0_56.toInt = x30.toInt + 87) ∨ (x30.toInt ≤ 9 ∧ s0_56.toInt = x30.toInt + 48)) → w_X4_writeCode_56 nv_row_items Q (w_X4_writeCode_21 p1 nv_row_items Q n_21) s0_56 l2_21 v_row_count_21 v_row_over_21 v_row_items_21 := by
          intro s0_56 f15
          unfold w_X4_writeCode_56
          refine ok_X7_add (by omega) (by omega) (by omega) (fun r56_0 r56_1 r56_2 f16 f17 f18 f19 => ?_)
          intro x59 ex59
          have f20 : x59.toInt = l2_21.toInt + (-4) := i_add (a := l2_21.toInt) (b := (-4)) ex59 rfl rfl (by omega) (by omega)
          exact ih_21 x59 r56_0 r56_1 r56_2 (by omega) (by omega) (by omega) (by have h8_0 := i_rng l2_21; have h8_1 := i_rng x59; omega)
        refine ⟨fun c39 => ?_, fun c39 => ?_⟩
        · have f21 : 10 ≤ x30.toInt := i_le (a := 10) (b := x30.toInt) rfl rfl c39
          intro x52 ex52
          have f22 : x52.toInt = 97 + x30.toInt := i_add (a := 97) (b := x30.toInt) ex52 rfl rfl (by omega) (by omega)
          intro x55 ex55
          have f23 : x55.toInt = x52.toInt - 10 := i_sub (a := x52.toInt) (b := 10) ex55 rfl rfl (by omega) (by omega)
          exact j_56 x55 (by omega)
        · have f24 : x30.toInt < 10 := i_nle (a := 10) (b := x30.toInt) rfl rfl c39
          intro x45 ex45
          have f25 : x45.toInt = 48 + x30.toInt := i_add (a := 48) (b := x30.toInt) ex45 rfl rfl (by omega) (by omega)
          exact j_56 x45 (by omega)
  exact ⟨(2147483661 : Int).toNat + 1, j_21   ((2147483661 : Int).toNat + 1) 12 r15_0 r15_1 r15_2 (by omega) (by omega) (by omega) (by omega)⟩
set_option maxHeartbeats 4000000 in
theorem ok_X11_isTapeSign {p0 : Int32} {Q : Int32 → Prop} (hq : ∀ (r : Int32), ((r.toInt = 1 ∧ 32 ≤ p0.toInt ∧ p0.toInt ≤ 126) ∨ (r.toInt = 0)) → Q r) : w_X11_isTapeSign p0 Q := by
  have q_t : (bz true).toInt = 1 := rfl
  have q_f : (bz false).toInt = 0 := rfl
  have q_0 : (0 : Int32).toInt = 0 := rfl
  have q_1 : (1 : Int32).toInt = 1 := rfl
  unfold w_X11_isTapeSign
  have j_17 : ∀ (s0_17 : Int32), ((s0_17.toInt = 1 ∧ 32 ≤ p0.toInt ∧ p0.toInt ≤ 126) ∨ (s0_17.toInt = 0)) → w_X11_isTapeSign_17 Q s0_17 := by
    intro s0_17 f1
    unfold w_X11_isTapeSign_17
    refine ⟨i_01 (by omega) (by omega), ?_⟩
    exact hq s0_17 (by omega)
  have j_16 : ((p0.toInt ≤ 31) ∨ (32 ≤ p0.toInt ∧ 127 ≤ p0.toInt)) → w_X11_isTapeSign_16 Q := by
    intro f2
    unfold w_X11_isTapeSign_16
    exact j_17 0 (by omega)
  refine ⟨fun c3 => ?_, fun c3 => ?_⟩
  · have f3 : p0.toInt < 32 := i_lt (a := p0.toInt) (b := 32) rfl rfl c3
    exact j_16  (by omega)
  · have f4 : 32 ≤ p0.toInt := i_nlt (a := p0.toInt) (b := 32) rfl rfl c3
    refine ⟨fun c9 => ?_, fun c9 => ?_⟩
    · have f5 : 126 < p0.toInt := i_lt (a := 126) (b := p0.toInt) rfl rfl c9
      exact j_16  (by omega)
    · have f6 : p0.toInt ≤ 126 := i_nlt (a := 126) (b := p0.toInt) rfl rfl c9
      exact j_17 1 (by omega)
set_option maxHeartbeats 4000000 in
theorem ok_X4_writeMember {p1 : Int32} {v_row_count : Int32} {v_row_over : Bool} {v_row_items : Nat → Int32} {nv_row_items : Nat} {Q : Int32 → Bool → (Nat → Int32) → Prop} (a0 : 0 ≤ v_row_count.toInt) (a1 : v_row_count.toInt ≤ (nv_row_items : Int)) (a2 : (nv_row_items : Int) ≤ 1000) (hq : ∀ (ov_row_count : Int32) (ov_row_over : Bool) (ov_row_items : Nat → Int32), 0 ≤ ov_row_count.toInt → ov_row_count.toInt ≤ (nv_row_items : Int) → v_row_count.toInt ≤ ov_row_count.toInt → Q ov_row_count ov_row_over ov_row_items) : w_X4_writeMember p1 v_row_count v_row_over v_row_items nv_row_items Q := by
  have q_t : (bz true).toInt = 1 := rfl
  have q_f : (bz false).toInt = 0 := rfl
  have q_92 : (92 : Int32).toInt = 92 := rfl
  unfold w_X4_writeMember
  refine ok_X11_isTapeSign  (fun r1 f1 => ?_)
  refine ⟨fun c4 => ?_, fun c4 => ?_⟩
  · have f2 : r1.toInt ≠ 0 := i_ne (a := r1.toInt) (b := 0) rfl rfl c4
    have j_52 : ∀ (v_row_count_52 : Int32) (v_row_over_52 : Bool) (v_row_items_52 : Nat → Int32), 0 ≤ v_row_count_52.toInt → v_row_count_52.toInt ≤ (nv_row_items : Int) → v_row_count.toInt ≤ v_row_count_52.toInt → ((v_row_count_52.toInt = v_row_count.toInt) ∨ (0 ≤ v_row_count_52.toInt ∧ v_row_count_52.toInt ≤ (nv_row_items : Int) ∧ v_row_count.toInt ≤ v_row_count_52.toInt)) → w_X4_writeMember_52 p1 nv_row_items Q v_row_count_52 v_row_over_52 v_row_items_52 := by
      intro v_row_count_52 v_row_over_52 v_row_items_52 f3 f4 f5 f6
      unfold w_X4_writeMember_52
      refine ok_X7_add (by omega) (by omega) (by omega) (fun r57_0 r57_1 r57_2 f7 f8 f9 f10 => ?_)
      exact hq r57_0 r57_1 r57_2 (by omega) (by omega) (by omega)
    have j_43 : w_X4_writeMember_43 p1 nv_row_items Q v_row_count v_row_over v_row_items := by
      unfold w_X4_writeMember_43
      refine ok_X7_add (by omega) (by omega) (by omega) (fun r49_0 r49_1 r49_2 f11 f12 f13 f14 => ?_)
      exact j_52 r49_0 r49_1 r49_2 (by omega) (by omega) (by omega) (by omega)
    refine ⟨fun c16 => ?_, fun c16 => ?_⟩
    · have f15 : p1.toInt = 91 := i_eq (a := p1.toInt) (b := 91) rfl rfl c16
      exact j_43  
    · have f16 : p1.toInt ≠ 91 := i_ne (a := p1.toInt) (b := 91) rfl rfl c16
      refine ⟨fun c22 => ?_, fun c22 => ?_⟩
      · have f17 : p1.toInt = 93 := i_eq (a := p1.toInt) (b := 93) rfl rfl c22
        exact j_43  
      · have f18 : p1.toInt ≠ 93 := i_ne (a := p1.toInt) (b := 93) rfl rfl c22
        refine ⟨fun c28 => ?_, fun c28 => ?_⟩
        · have f19 : p1.toInt = 94 := i_eq (a := p1.toInt) (b := 94) rfl rfl c28
          exact j_43  
        · have f20 : p1.toInt ≠ 94 := i_ne (a := p1.toInt) (b := 94) rfl rfl c28
          refine ⟨fun c34 => ?_, fun c34 => ?_⟩
          · have f21 : p1.toInt = 45 := i_eq (a := p1.toInt) (b := 45) rfl rfl c34
            exact j_43  
          · have f22 : p1.toInt ≠ 45 := i_ne (a := p1.toInt) (b := 45) rfl rfl c34
            refine ⟨fun c40 => ?_, fun c40 => ?_⟩
            · have f23 : p1.toInt ≠ 92 := i_ne (a := p1.toInt) (b := 92) rfl rfl c40
              exact j_52 v_row_count v_row_over v_row_items (by omega) (by omega) (by omega) (by omega)
            · have f24 : p1.toInt = 92 := i_eq (a := p1.toInt) (b := 92) rfl rfl c40
              exact j_43  
  · have f25 : r1.toInt = 0 := i_eq (a := r1.toInt) (b := 0) rfl rfl c4
    refine ok_X4_writeCode (by omega) (by omega) (by omega) (fun r9_0 r9_1 r9_2 f26 f27 f28 f29 f30 => ?_)
    exact hq r9_0 r9_1 r9_2 (by omega) (by omega) (by omega)
set_option maxHeartbeats 4000000 in
theorem ok_X4_writeSet {p2 : Int32} {v_row_count : Int32} {v_row_over : Bool} {v_row_items : Nat → Int32} {nv_row_items : Nat} {a1_count : Int32} {a1_ranges : Int32} {a1_sort : Nat → Int32} {a1_parts : Nat → Int32} {a1_value : Nat → Int32} {a1_low : Nat → Int32} {a1_high : Nat → Int32} {a1_rangeBegin : Nat → Int32} {a1_rangeEnd : Nat → Int32} {Q : Int32 → Bool → (Nat → Int32) → Prop} (a0 : 0 ≤ v_row_count.toInt) (a1 : v_row_count.toInt ≤ (nv_row_items : Int)) (a2 : (nv_row_items : Int) ≤ 1000) (a3 : 0 ≤ a1_count.toInt) (a4 : a1_count.toInt ≤ 256) (a5 : 0 ≤ a1_ranges.toInt) (a6 : a1_ranges.toInt ≤ 512) (hq : ∀ (ov_row_count : Int32) (ov_row_over : Bool) (ov_row_items : Nat → Int32), 0 ≤ ov_row_count.toInt → ov_row_count.toInt ≤ (nv_row_items : Int) → v_row_count.toInt ≤ ov_row_count.toInt → Q ov_row_count ov_row_over ov_row_items) : w_X4_writeSet p2 v_row_count v_row_over v_row_items nv_row_items a1_count a1_ranges a1_sort a1_parts a1_value a1_low a1_high a1_rangeBegin a1_rangeEnd Q := by
  have q_t : (bz true).toInt = 1 := rfl
  have q_f : (bz false).toInt = 0 := rfl
  have q_0 : (0 : Int32).toInt = 0 := rfl
  have q_45 : (45 : Int32).toInt = 45 := rfl
  have q_91 : (91 : Int32).toInt = 91 := rfl
  have q_93 : (93 : Int32).toInt = 93 := rfl
  have q_94 : (94 : Int32).toInt = 94 := rfl
  unfold w_X4_writeSet
  refine ok_X7_add (by omega) (by omega) (by omega) (fun r6_0 r6_1 r6_2 f1 f2 f3 f4 => ?_)
  refine ok_X10_valueOf (by omega) (by omega) (fun r11 f5 => ?_)
  have j_26 : ∀ (v_row_count_26 : Int32) (v_row_over_26 : Bool) (v_row_items_26 : Nat → Int32), 0 ≤ v_row_count_26.toInt → v_row_count_26.toInt ≤ (nv_row_items : Int) → v_row_count.toInt ≤ v_row_count_26.toInt → ((v_row_count_26.toInt = r6_0.toInt ∧ r11.toInt = 0) ∨ (0 ≤ v_row_count_26.toInt ∧ v_row_count_26.toInt ≤ (nv_row_items : Int) ∧ r6_0.toInt ≤ v_row_count_26.toInt)) → w_X4_writeSet_26 p2 nv_row_items a1_count a1_ranges a1_sort a1_parts a1_low a1_high a1_rangeBegin a1_rangeEnd Q v_row_count_26 v_row_over_26 v_row_items_26 := by
    intro v_row_count_26 v_row_over_26 v_row_items_26 f6 f7 f8 f9
    unfold w_X4_writeSet_26
    have j_28 : ∀ n_28 : Nat, ∀ (l3_28 : Int32) (v_row_count_28 : Int32) (v_row_over_28 : Bool) (v_row_items_28 : Nat → Int32), 0 ≤ l3_28.toInt → v_row_count_26.toInt ≤ v_row_count_28.toInt → v_row_count_28.toInt ≤ (nv_row_items : Int) → ((-1) * l3_28.toInt + 2147483648).toNat < n_28 → w_X4_writeSet_28 p2 nv_row_items a1_count a1_ranges a1_sort a1_parts a1_low a1_high a1_rangeBegin a1_rangeEnd Q n_28 l3_28 v_row_count_28 v_row_over_28 v_row_items_28 := by
      intro n_28
      induction n_28 with
      | zero =>
        intro l3_28 v_row_count_28 v_row_over_28 v_row_items_28 f10 f11 f12 hm_28
        exfalso; omega
      | succ n_28 ih_28 =>
        intro l3_28 v_row_count_28 v_row_over_28 v_row_items_28 f10 f11 f12 hm_28
        unfold w_X4_writeSet_28
        unfold w_X4_writeSet_28B
        refine ok_X10_partsOf (by omega) (by omega) (fun r31 f13 => ?_)
        refine ⟨fun c34 => ?_, fun c34 => ?_⟩
        · have f14 : r31.toInt ≤ l3_28.toInt := i_le (a := r31.toInt) (b := l3_28.toInt) rfl rfl c34
          refine ok_X7_add (by omega) (by omega) (by omega) (fun r93_0 r93_1 r93_2 f15 f16 f17 f18 => ?_)
          exact hq r93_0 r93_1 r93_2 (by omega) (by omega) (by omega)
        · have f19 : l3_28.toInt < r31.toInt := i_nle (a := r31.toInt) (b := l3_28.toInt) rfl rfl c34
          refine ok_X10_partBegin (by omega) (by omega) (by omega) (by omega) (fun r41 => ?_)
          refine ok_X4_writeMember (by omega) (by omega) (by omega) (fun r44_0 r44_1 r44_2 f20 f21 f22 => ?_)
          refine ok_X10_partEnd (by omega) (by omega) (by omega) (by omega) (fun r50 => ?_)
          refine ok_X10_partBegin (by omega) (by omega) (by omega) (by omega) (fun r56 => ?_)
          have j_81 : ∀ (v_row_count_81 : Int32) (v_row_over_81 : Bool) (v_row_items_81 : Nat → Int32), 0 ≤ v_row_count_81.toInt → v_row_count_81.toInt ≤ (nv_row_items : Int) → v_row_count.toInt ≤ v_row_count_81.toInt → v_row_count_28.toInt ≤ v_row_count_81.toInt → ((v_row_count_81.toInt = r44_0.toInt) ∨ (0 ≤ v_row_count_81.toInt ∧ v_row_count_81.toInt ≤ (nv_row_items : Int))) → w_X4_writeSet_81 Q (w_X4_writeSet_28 p2 nv_row_items a1_count a1_ranges a1_sort a1_parts a1_low a1_high a1_rangeBegin a1_rangeEnd Q n_28) l3_28 v_row_count_81 v_row_over_81 v_row_items_81 := by
            intro v_row_count_81 v_row_over_81 v_row_items_81 f23 f24 f25 f26 f27
            unfold w_X4_writeSet_81
            intro x81 ex81
            have f28 : x81.toInt = l3_28.toInt + 1 := i_add (a := l3_28.toInt) (b := 1) ex81 rfl rfl (by omega) (by have h8_1 := i_rng a1_count; have h8_2 := i_rng l3_28; have h8_3 := i_rng p2; have h8_4 := i_rng r11; have h8_5 := i_rng r31; have h8_6 := i_rng r44_0; have h8_7 := i_rng r6_0; have h8_8 := i_rng v_row_count; have h8_9 := i_rng v_row_count_26; have h8_10 := i_rng v_row_count_28; have h8_11 := i_rng v_row_count_81; omega)
            exact ih_28 x81 v_row_count_81 v_row_over_81 v_row_items_81 (by omega) (by omega) (by omega) (by have h8_0 := i_rng l3_28; have h8_1 := i_rng x81; omega)
          refine ⟨fun c59 => ?_, fun c59 => ?_⟩
          · have f29 : r50.toInt = r56.toInt := i_eq (a := r50.toInt) (b := r56.toInt) rfl rfl c59
            exact j_81 r44_0 r44_1 r44_2 (by omega) (by omega) (by omega) (by omega) (by omega)
          · have f30 : r50.toInt ≠ r56.toInt := i_ne (a := r50.toInt) (b := r56.toInt) rfl rfl c59
            refine ok_X7_add (by omega) (by omega) (by omega) (fun r68_0 r68_1 r68_2 f31 f32 f33 f34 => ?_)
            refine ok_X10_partEnd (by omega) (by omega) (by omega) (by omega) (fun r75 => ?_)
            refine ok_X4_writeMember (by omega) (by omega) (by omega) (fun r78_0 r78_1 r78_2 f35 f36 f37 => ?_)
            exact j_81 r78_0 r78_1 r78_2 (by omega) (by omega) (by omega) (by omega) (by omega)
    exact ⟨(2147483648 : Int).toNat + 1, j_28   ((2147483648 : Int).toNat + 1) 0 v_row_count_26 v_row_over_26 v_row_items_26 (by omega) (by omega) (by omega) (by omega)⟩
  refine ⟨fun c14 => ?_, fun c14 => ?_⟩
  · have f38 : r11.toInt = 0 := i_eq (a := r11.toInt) (b := 0) rfl rfl c14
    exact j_26 r6_0 r6_1 r6_2 (by omega) (by omega) (by omega) (by omega)
  · have f39 : r11.toInt ≠ 0 := i_ne (a := r11.toInt) (b := 0) rfl rfl c14
    refine ok_X7_add (by omega) (by omega) (by omega) (fun r23_0 r23_1 r23_2 f40 f41 f42 f43 => ?_)
    exact j_26 r23_0 r23_1 r23_2 (by omega) (by omega) (by omega) (by omega)
set_option maxHeartbeats 4000000 in
theorem ok_X11_isPlain {p0 : Int32} {Q : Int32 → Prop} (hq : ∀ (r : Int32), 0 ≤ r.toInt → r.toInt ≤ 1 → Q r) : w_X11_isPlain p0 Q := by
  have q_t : (bz true).toInt = 1 := rfl
  have q_f : (bz false).toInt = 0 := rfl
  have q_0 : (0 : Int32).toInt = 0 := rfl
  unfold w_X11_isPlain
  have j_124 : w_X11_isPlain_124 Q := by
    unfold w_X11_isPlain_124
    exact hq 0 (by omega) (by omega)
  refine ⟨fun c1_0 => ?_, fun c1_1 => ?_, fun c1_2 => ?_, fun c1_3 => ?_, fun c1_4 => ?_, fun c1_5 => ?_, fun c1_6 => ?_, fun c1_7 => ?_, fun c1_8 => ?_, fun c1_9 => ?_, fun c1_10 => ?_, fun c1_11 => ?_, fun c1_12 => ?_, fun c1_13 => ?_, ?_⟩
  · have f1 : p0.toInt = 36 := i_eq (a := p0.toInt) (b := 36) rfl rfl c1_0
    exact j_124  
  · have f2 : p0.toInt = 40 := i_eq (a := p0.toInt) (b := 40) rfl rfl c1_1
    exact j_124  
  · have f3 : p0.toInt = 41 := i_eq (a := p0.toInt) (b := 41) rfl rfl c1_2
    exact j_124  
  · have f4 : p0.toInt = 42 := i_eq (a := p0.toInt) (b := 42) rfl rfl c1_3
    exact j_124  
  · have f5 : p0.toInt = 43 := i_eq (a := p0.toInt) (b := 43) rfl rfl c1_4
    exact j_124  
  · have f6 : p0.toInt = 46 := i_eq (a := p0.toInt) (b := 46) rfl rfl c1_5
    exact j_124  
  · have f7 : p0.toInt = 63 := i_eq (a := p0.toInt) (b := 63) rfl rfl c1_6
    exact j_124  
  · have f8 : p0.toInt = 91 := i_eq (a := p0.toInt) (b := 91) rfl rfl c1_7
    exact j_124  
  · have f9 : p0.toInt = 92 := i_eq (a := p0.toInt) (b := 92) rfl rfl c1_8
    exact j_124  
  · have f10 : p0.toInt = 93 := i_eq (a := p0.toInt) (b := 93) rfl rfl c1_9
    exact j_124  
  · have f11 : p0.toInt = 94 := i_eq (a := p0.toInt) (b := 94) rfl rfl c1_10
    exact j_124  
  · have f12 : p0.toInt = 123 := i_eq (a := p0.toInt) (b := 123) rfl rfl c1_11
    exact j_124  
  · have f13 : p0.toInt = 124 := i_eq (a := p0.toInt) (b := 124) rfl rfl c1_12
    exact j_124  
  · have f14 : p0.toInt = 125 := i_eq (a := p0.toInt) (b := 125) rfl rfl c1_13
    exact j_124  
  · intro c1_0 c1_1 c1_2 c1_3 c1_4 c1_5 c1_6 c1_7 c1_8 c1_9 c1_10 c1_11 c1_12 c1_13
    have f15 : p0.toInt ≠ 36 := i_ne (a := p0.toInt) (b := 36) rfl rfl c1_0
    have f16 : p0.toInt ≠ 40 := i_ne (a := p0.toInt) (b := 40) rfl rfl c1_1
    have f17 : p0.toInt ≠ 41 := i_ne (a := p0.toInt) (b := 41) rfl rfl c1_2
    have f18 : p0.toInt ≠ 42 := i_ne (a := p0.toInt) (b := 42) rfl rfl c1_3
    have f19 : p0.toInt ≠ 43 := i_ne (a := p0.toInt) (b := 43) rfl rfl c1_4
    have f20 : p0.toInt ≠ 46 := i_ne (a := p0.toInt) (b := 46) rfl rfl c1_5
    have f21 : p0.toInt ≠ 63 := i_ne (a := p0.toInt) (b := 63) rfl rfl c1_6
    have f22 : p0.toInt ≠ 91 := i_ne (a := p0.toInt) (b := 91) rfl rfl c1_7
    have f23 : p0.toInt ≠ 92 := i_ne (a := p0.toInt) (b := 92) rfl rfl c1_8
    have f24 : p0.toInt ≠ 93 := i_ne (a := p0.toInt) (b := 93) rfl rfl c1_9
    have f25 : p0.toInt ≠ 94 := i_ne (a := p0.toInt) (b := 94) rfl rfl c1_10
    have f26 : p0.toInt ≠ 123 := i_ne (a := p0.toInt) (b := 123) rfl rfl c1_11
    have f27 : p0.toInt ≠ 124 := i_ne (a := p0.toInt) (b := 124) rfl rfl c1_12
    have f28 : p0.toInt ≠ 125 := i_ne (a := p0.toInt) (b := 125) rfl rfl c1_13
    refine ok_X11_isTapeSign  (fun r127 f29 => ?_)
    refine ⟨i_01 (by omega) (by omega), ?_⟩
    exact hq r127 (by omega) (by omega)
set_option maxHeartbeats 4000000 in
theorem ok_X8_longestBeginning {p2 : Int32} {a1_count : Int32} {a1_items : Nat → Int32} {na1_items : Nat} {v_alphabet_count : Int32} {v_alphabet_begins : Nat → Int32} {v_one_count : Int32} {v_one_width : Int32} {v_one_ahead : Nat → Int64} {v_one_goes : Nat → Int32} {v_one_live : Nat → Bool} {Q : Int32 → (Nat → Bool) → Prop} (a0 : 0 ≤ a1_count.toInt) (a1 : a1_count.toInt ≤ (na1_items : Int)) (a2 : (na1_items : Int) ≤ 1000) (a3 : 0 ≤ v_alphabet_count.toInt) (a4 : v_alphabet_count.toInt ≤ 256) (a5 : 0 ≤ v_one_count.toInt) (a6 : v_one_count.toInt ≤ 60) (a7 : 0 ≤ v_one_width.toInt) (a8 : v_one_width.toInt ≤ 256) (hq : ∀ (r : Int32) (ov_one_live : Nat → Bool), Q r ov_one_live) : w_X8_longestBeginning p2 a1_count a1_items na1_items v_alphabet_count v_alphabet_begins v_one_count v_one_width v_one_ahead v_one_goes v_one_live Q := by
  have q_t : (bz true).toInt = 1 := rfl
  have q_f : (bz false).toInt = 0 := rfl
  unfold w_X8_longestBeginning
  refine ok_X9_longestBeginning (by omega) (by omega) (by omega) (by omega) (by omega) (by omega) (by omega) (by omega) (by omega) (fun r10 r10_0 => ?_)
  exact hq r10 r10_0 
set_option maxHeartbeats 4000000 in
theorem ok_X8_meet {p1 : Int32} {p2 : Int32} {p3 : Int32} {v_stamp : Int32} {v_pairCount : Int32} {v_met : Nat → Int32} {v_pairs : Nat → Int32} {v_cameFrom : Nat → Int32} {v_cameBy : Nat → Int32} {Q : Int32 → (Nat → Int32) → (Nat → Int32) → (Nat → Int32) → (Nat → Int32) → Prop} (a0 : 0 ≤ v_pairCount.toInt) (a1 : v_pairCount.toInt ≤ 3600) (a2 : 0 ≤ p2.toInt + 1) (a3 : p2.toInt + 1 ≤ v_pairCount.toInt) (b0 : rp (fun k v => v < k ∧ -1 ≤ v) v_cameFrom 0 v_pairCount.toInt) (hq : ∀ (ov_pairCount : Int32) (ov_met : Nat → Int32) (ov_pairs : Nat → Int32) (ov_cameFrom : Nat → Int32) (ov_cameBy : Nat → Int32), v_pairCount.toInt ≤ ov_pairCount.toInt → ((0 ≤ p1.toInt ∧ p1.toInt ≤ 3599 ∧ v_pairCount.toInt ≤ 3599 ∧ ov_pairCount.toInt = v_pairCount.toInt + 1) ∨ (ov_pairCount.toInt = v_pairCount.toInt)) → rp (fun k v => v < k ∧ -1 ≤ v) ov_cameFrom 0 v_pairCount.toInt → rp (fun k v => v < k ∧ -1 ≤ v) ov_cameFrom 0 ov_pairCount.toInt → Q ov_pairCount ov_met ov_pairs ov_cameFrom ov_cameBy) : w_X8_meet p1 p2 p3 v_stamp v_pairCount v_met v_pairs v_cameFrom v_cameBy Q := by
  have q_t : (bz true).toInt = 1 := rfl
  have q_f : (bz false).toInt = 0 := rfl
  unfold w_X8_meet
  have j_34 : w_X8_meet_34 Q v_pairCount v_met v_pairs v_cameFrom v_cameBy := by
    unfold w_X8_meet_34
    exact hq v_pairCount v_met v_pairs v_cameFrom v_cameBy (by omega) (by omega) (rp_mono b0 (by omega) (by omega)) (rp_mono b0 (by omega) (by omega))
  refine ⟨fun c1 => ?_, fun c1 => ?_⟩
  · have f1 : p1.toInt < 0 := i_lt (a := p1.toInt) (b := 0) rfl rfl c1
    exact j_34  
  · have f2 : 0 ≤ p1.toInt := i_nlt (a := p1.toInt) (b := 0) rfl rfl c1
    refine ⟨fun c8 => ?_, fun c8 => ?_⟩
    · have f3 : 3600 ≤ p1.toInt := i_le (a := 3600) (b := p1.toInt) rfl rfl c8
      exact j_34  
    · have f4 : p1.toInt < 3600 := i_nle (a := 3600) (b := p1.toInt) rfl rfl c8
      refine ⟨i_in (by omega) (by omega), ?_⟩
      intro x16 ex16
      refine ⟨fun c21 => ?_, fun c21 => ?_⟩
      · have f5 : x16.toInt = v_stamp.toInt := i_eq (a := x16.toInt) (b := v_stamp.toInt) rfl rfl c21
        exact j_34  
      · have f6 : x16.toInt ≠ v_stamp.toInt := i_ne (a := x16.toInt) (b := v_stamp.toInt) rfl rfl c21
        refine ⟨fun c31 => ?_, fun c31 => ?_⟩
        · have f7 : v_pairCount.toInt < 3600 := i_lt (a := v_pairCount.toInt) (b := 3600) rfl rfl c31
          refine ⟨i_in (by omega) (by omega), ?_⟩
          intro g44 eg44
          refine ⟨i_in (by omega) (by omega), ?_⟩
          intro g54 eg54
          refine ⟨i_in (by omega) (by omega), ?_⟩
          intro g64 eg64
          have h8 : rp (fun k v => v < k ∧ -1 ≤ v) g64 0 (v_pairCount.toInt + 1) := rp_ext (P := (fun k v => v < k ∧ -1 ≤ v)) (a := v_pairCount.toInt) (b := p2.toInt) b0 eg64 rfl rfl (by omega) (by omega) ⟨(by omega), (by omega)⟩
          refine ⟨i_in (by omega) (by omega), ?_⟩
          intro g74 eg74
          intro x81 ex81
          have f9 : x81.toInt = v_pairCount.toInt + 1 := i_add (a := v_pairCount.toInt) (b := 1) ex81 rfl rfl (by omega) (by omega)
          exact hq x81 g44 g54 g64 g74 (by omega) (by omega) (rp_mono h8 (by omega) (by omega)) (rp_mono h8 (by omega) (by omega))
        · have f10 : 3600 ≤ v_pairCount.toInt := i_nlt (a := v_pairCount.toInt) (b := 3600) rfl rfl c31
          exact j_34  
set_option maxHeartbeats 4000000 in
theorem ok_X8_look {p1 : Int32} {p2 : Int32} {p3 : Int32} {v_onlyInOne : Bool} {v_onlyInOther : Bool} {v_parted : Int32} {Q : Bool → Bool → Int32 → Prop} (a0 : 0 ≤ v_parted.toInt + 1) (a1 : 0 ≤ p2.toInt) (a2 : p2.toInt ≤ 1) (a3 : 0 ≤ p3.toInt) (a4 : p3.toInt ≤ 1) (a5 : 0 ≤ p1.toInt) (hq : ∀ (ov_onlyInOne : Bool) (ov_onlyInOther : Bool) (ov_parted : Int32), 0 ≤ (bz ov_onlyInOne).toInt → (bz ov_onlyInOne).toInt ≤ 1 → 0 ≤ (bz ov_onlyInOther).toInt → (bz ov_onlyInOther).toInt ≤ 1 → 0 ≤ ov_parted.toInt + 1 → v_parted.toInt ≤ ov_parted.toInt → ((ov_parted.toInt = v_parted.toInt ∧ p2.toInt = p3.toInt) ∨ (ov_parted.toInt = v_parted.toInt) ∨ (ov_parted.toInt = p1.toInt ∧ v_parted.toInt + 1 = 0)) → Q ov_onlyInOne ov_onlyInOther ov_parted) : w_X8_look p1 p2 p3 v_onlyInOne v_onlyInOther v_parted Q := by
  have q_t : (bz true).toInt = 1 := rfl
  have q_f : (bz false).toInt = 0 := rfl
  have q_0 : (0 : Int32).toInt = 0 := rfl
  have q_1 : (1 : Int32).toInt = 1 := rfl
  unfold w_X8_look
  have f1 : (0 ≤ (bz v_onlyInOne).toInt ∧ (bz v_onlyInOne).toInt ≤ 1) := i_bzr v_onlyInOne
  have j_18 : ∀ (s0_18 : Int32), ((s0_18.toInt = 1 ∧ p3.toInt = 0) ∨ (s0_18.toInt = 0)) → w_X8_look_18 p1 p2 p3 Q s0_18 (bz v_onlyInOne) v_onlyInOne v_onlyInOther v_parted := by
    intro s0_18 f2
    unfold w_X8_look_18
    intro x18 ex18
    have f3 : (0 ≤ x18.toInt ∧ x18.toInt ≤ 1) := i_or01 (a := (bz v_onlyInOne).toInt) (b := s0_18.toInt) ex18 rfl rfl (by omega) (by omega) (by omega) (by omega)
    refine ⟨i_01 (by omega) (by omega), ?_⟩
    intro b19 eb19
    have f4 : (bz b19).toInt = x18.toInt := by rw [← eb19]
    have f5 : (0 ≤ (bz v_onlyInOther).toInt ∧ (bz v_onlyInOther).toInt ≤ 1) := i_bzr v_onlyInOther
    have j_40 : ∀ (s0_40 : Int32), ((s0_40.toInt = 1 ∧ p2.toInt = 0) ∨ (s0_40.toInt = 0)) → w_X8_look_40 p1 p2 p3 Q s0_40 (bz v_onlyInOther) b19 v_onlyInOther v_parted := by
      intro s0_40 f6
      unfold w_X8_look_40
      intro x40 ex40
      have f7 : (0 ≤ x40.toInt ∧ x40.toInt ≤ 1) := i_or01 (a := (bz v_onlyInOther).toInt) (b := s0_40.toInt) ex40 rfl rfl (by omega) (by omega) (by omega) (by omega)
      refine ⟨i_01 (by omega) (by omega), ?_⟩
      intro b41 eb41
      have f8 : (bz b41).toInt = x40.toInt := by rw [← eb41]
      have j_62 : ∀ (v_parted_62 : Int32), 0 ≤ v_parted_62.toInt + 1 → v_parted.toInt ≤ v_parted_62.toInt → ((v_parted_62.toInt = v_parted.toInt ∧ p2.toInt = p3.toInt) ∨ (v_parted_62.toInt = v_parted.toInt) ∨ (v_parted_62.toInt = p1.toInt ∧ v_parted.toInt + 1 = 0)) → w_X8_look_62 Q b19 b41 v_parted_62 := by
        intro v_parted_62 f9 f10 f11
        unfold w_X8_look_62
        exact hq b19 b41 v_parted_62 (by omega) (by omega) (by omega) (by omega) (by omega) (by omega) (by omega)
      refine ⟨fun c46 => ?_, fun c46 => ?_⟩
      · have f12 : p2.toInt = p3.toInt := i_eq (a := p2.toInt) (b := p3.toInt) rfl rfl c46
        exact j_62 v_parted (by omega) (by omega) (by omega)
      · have f13 : p2.toInt ≠ p3.toInt := i_ne (a := p2.toInt) (b := p3.toInt) rfl rfl c46
        refine ⟨fun c54 => ?_, fun c54 => ?_⟩
        · have f14 : v_parted.toInt ≠ (-1) := i_ne (a := v_parted.toInt) (b := (-1)) rfl rfl c54
          exact j_62 v_parted (by omega) (by omega) (by omega)
        · have f15 : v_parted.toInt = (-1) := i_eq (a := v_parted.toInt) (b := (-1)) rfl rfl c54
          exact j_62 p1 (by omega) (by omega) (by omega)
    have j_39 : w_X8_look_39 p1 p2 p3 Q (bz v_onlyInOther) b19 v_onlyInOther v_parted := by
      unfold w_X8_look_39
      exact j_40 0 (by omega)
    refine ⟨fun c28 => ?_, fun c28 => ?_⟩
    · have f16 : p3.toInt = 0 := i_eq (a := p3.toInt) (b := 0) rfl rfl c28
      exact j_39  
    · have f17 : p3.toInt ≠ 0 := i_ne (a := p3.toInt) (b := 0) rfl rfl c28
      refine ⟨fun c32 => ?_, fun c32 => ?_⟩
      · have f18 : p2.toInt ≠ 0 := i_ne (a := p2.toInt) (b := 0) rfl rfl c32
        exact j_39  
      · have f19 : p2.toInt = 0 := i_eq (a := p2.toInt) (b := 0) rfl rfl c32
        exact j_40 1 (by omega)
  have j_17 : w_X8_look_17 p1 p2 p3 Q (bz v_onlyInOne) v_onlyInOne v_onlyInOther v_parted := by
    unfold w_X8_look_17
    exact j_18 0 (by omega)
  refine ⟨fun c6 => ?_, fun c6 => ?_⟩
  · have f20 : p2.toInt = 0 := i_eq (a := p2.toInt) (b := 0) rfl rfl c6
    exact j_17  
  · have f21 : p2.toInt ≠ 0 := i_ne (a := p2.toInt) (b := 0) rfl rfl c6
    refine ⟨fun c10 => ?_, fun c10 => ?_⟩
    · have f22 : p3.toInt ≠ 0 := i_ne (a := p3.toInt) (b := 0) rfl rfl c10
      exact j_17  
    · have f23 : p3.toInt = 0 := i_eq (a := p3.toInt) (b := 0) rfl rfl c10
      exact j_18 1 (by omega)
set_option maxHeartbeats 4000000 in
theorem ok_X8_walkBoth {v_stamp : Int32} {v_alphabet_count : Int32} {v_alphabet_begins : Nat → Int32} {v_one_count : Int32} {v_one_width : Int32} {v_one_ahead : Nat → Int64} {v_one_goes : Nat → Int32} {v_other_count : Int32} {v_other_width : Int32} {v_other_ahead : Nat → Int64} {v_other_goes : Nat → Int32} {v_met : Nat → Int32} {v_pairs : Nat → Int32} {v_cameFrom : Nat → Int32} {v_cameBy : Nat → Int32} {Q : Bool → Bool → Int32 → Int32 → Int32 → (Nat → Int32) → (Nat → Int32) → (Nat → Int32) → (Nat → Int32) → Prop} (a0 : 0 ≤ v_alphabet_count.toInt) (a1 : v_alphabet_count.toInt ≤ 256) (a2 : 0 ≤ v_one_count.toInt) (a3 : v_one_count.toInt ≤ 60) (a4 : 0 ≤ v_one_width.toInt) (a5 : v_one_width.toInt ≤ 256) (a6 : 0 ≤ v_other_count.toInt) (a7 : v_other_count.toInt ≤ 60) (a8 : 0 ≤ v_other_width.toInt) (a9 : v_other_width.toInt ≤ 256) (hq : ∀ (ov_onlyInOne : Bool) (ov_onlyInOther : Bool) (ov_stamp : Int32) (ov_pairCount : Int32) (ov_parted : Int32) (ov_met : Nat → Int32) (ov_pairs : Nat → Int32) (ov_cameFrom : Nat → Int32) (ov_cameBy : Nat → Int32), 0 ≤ ov_pairCount.toInt + 1 → 0 ≤ ov_pairCount.toInt → ov_pairCount.toInt ≤ 3600 → ov_pairCount.toInt ≤ 3601 → 0 ≤ ov_parted.toInt + 1 → ov_parted.toInt ≤ 3599 → ov_parted.toInt ≤ 3600 → ov_parted.toInt ≤ 3601 → ov_parted.toInt ≤ ov_pairCount.toInt → ((ov_parted.toInt ≤ 0) ∨ (ov_parted.toInt + 1 ≤ ov_pairCount.toInt)) → rp (fun k v => v < k ∧ -1 ≤ v) ov_cameFrom 0 0 → rp (fun k v => v < k ∧ -1 ≤ v) ov_cameFrom 0 (ov_parted.toInt + 1) → rp (fun k v => v < k ∧ -1 ≤ v) ov_cameFrom (ov_parted.toInt + 1) 0 → rp (fun k v => v < k ∧ -1 ≤ v) ov_cameFrom (ov_parted.toInt + 1) (ov_parted.toInt + 1) → rp (fun k v => v < k ∧ -1 ≤ v) ov_cameFrom 0 ov_pairCount.toInt → rp (fun k v => v < k ∧ -1 ≤ v) ov_cameFrom (ov_parted.toInt + 1) ov_pairCount.toInt → Q ov_onlyInOne ov_onlyInOther ov_stamp ov_pairCount ov_parted ov_met ov_pairs ov_cameFrom ov_cameBy) : w_X8_walkBoth v_stamp v_alphabet_count v_alphabet_begins v_one_count v_one_width v_one_ahead v_one_goes v_other_count v_other_width v_other_ahead v_other_goes v_met v_pairs v_cameFrom v_cameBy Q := by
  have q_t : (bz true).toInt = 1 := rfl
  have q_f : (bz false).toInt = 0 := rfl
  have q_m1 : ((-1) : Int32).toInt = (-1) := rfl
  have q_0 : (0 : Int32).toInt = 0 := rfl
  unfold w_X8_walkBoth
  intro x21 ex21
  refine ok_X8_meet (by omega) (by omega) (by omega) (by omega) (rp_nil (by omega)) (fun r34_0 r34_1 r34_2 r34_3 r34_4 f1 f2 h3 h4 => ?_)
  have j_39 : ∀ n_39 : Nat, ∀ (l1_39 : Int32) (v_onlyInOne_39 : Bool) (v_onlyInOther_39 : Bool) (v_pairCount_39 : Int32) (v_parted_39 : Int32) (v_met_39 : Nat → Int32) (v_pairs_39 : Nat → Int32) (v_cameFrom_39 : Nat → Int32) (v_cameBy_39 : Nat → Int32), 0 ≤ l1_39.toInt → l1_39.toInt ≤ v_pairCount_39.toInt → r34_0.toInt ≤ v_pairCount_39.toInt → v_parted_39.toInt ≤ l1_39.toInt → v_pairCount_39.toInt ≤ 3600 → 0 ≤ v_parted_39.toInt + 1 → ((v_parted_39.toInt ≤ 0) ∨ (v_parted_39.toInt + 1 ≤ v_pairCount_39.toInt)) → rp (fun k v => v < k ∧ -1 ≤ v) v_cameFrom_39 0 0 → rp (fun k v => v < k ∧ -1 ≤ v) v_cameFrom_39 0 l1_39.toInt → rp (fun k v => v < k ∧ -1 ≤ v) v_cameFrom_39 0 (v_parted_39.toInt + 1) → rp (fun k v => v < k ∧ -1 ≤ v) v_cameFrom_39 l1_39.toInt 0 → rp (fun k v => v < k ∧ -1 ≤ v) v_cameFrom_39 l1_39.toInt l1_39.toInt → rp (fun k v => v < k ∧ -1 ≤ v) v_cameFrom_39 l1_39.toInt (v_parted_39.toInt + 1) → rp (fun k v => v < k ∧ -1 ≤ v) v_cameFrom_39 (v_parted_39.toInt + 1) 0 → rp (fun k v => v < k ∧ -1 ≤ v) v_cameFrom_39 (v_parted_39.toInt + 1) l1_39.toInt → rp (fun k v => v < k ∧ -1 ≤ v) v_cameFrom_39 (v_parted_39.toInt + 1) (v_parted_39.toInt + 1) → rp (fun k v => v < k ∧ -1 ≤ v) v_cameFrom_39 0 r34_0.toInt → rp (fun k v => v < k ∧ -1 ≤ v) v_cameFrom_39 0 v_pairCount_39.toInt → rp (fun k v => v < k ∧ -1 ≤ v) v_cameFrom_39 l1_39.toInt r34_0.toInt → rp (fun k v => v < k ∧ -1 ≤ v) v_cameFrom_39 l1_39.toInt v_pairCount_39.toInt → rp (fun k v => v < k ∧ -1 ≤ v) v_cameFrom_39 (v_parted_39.toInt + 1) r34_0.toInt → rp (fun k v => v < k ∧ -1 ≤ v) v_cameFrom_39 (v_parted_39.toInt + 1) v_pairCount_39.toInt → ((-1) * l1_39.toInt + 3600).toNat < n_39 → w_X8_walkBoth_39 v_alphabet_count v_alphabet_begins v_one_count v_one_width v_one_ahead v_one_goes v_other_count v_other_width v_other_ahead v_other_goes Q x21 n_39 l1_39 v_onlyInOne_39 v_onlyInOther_39 v_pairCount_39 v_parted_39 v_met_39 v_pairs_39 v_cameFrom_39 v_cameBy_39 := by
    intro n_39
    induction n_39 with
    | zero =>
      intro l1_39 v_onlyInOne_39 v_onlyInOther_39 v_pairCount_39 v_parted_39 v_met_39 v_pairs_39 v_cameFrom_39 v_cameBy_39 f5 f6 f7 f8 f9 f10 f11 h12 h13 h14 h15 h16 h17 h18 h19 h20 h21 h22 h23 h24 h25 h26 hm_39
      exfalso; omega
    | succ n_39 ih_39 =>
      intro l1_39 v_onlyInOne_39 v_onlyInOther_39 v_pairCount_39 v_parted_39 v_met_39 v_pairs_39 v_cameFrom_39 v_cameBy_39 f5 f6 f7 f8 f9 f10 f11 h12 h13 h14 h15 h16 h17 h18 h19 h20 h21 h22 h23 h24 h25 h26 hm_39
      unfold w_X8_walkBoth_39
      unfold w_X8_walkBoth_39B
      have j_160 : v_pairCount_39.toInt ≤ l1_39.toInt → w_X8_walkBoth_160 Q v_onlyInOne_39 v_onlyInOther_39 x21 v_pairCount_39 v_parted_39 v_met_39 v_pairs_39 v_cameFrom_39 v_cameBy_39 := by
        intro f27
        unfold w_X8_walkBoth_160
        exact hq v_onlyInOne_39 v_onlyInOther_39 x21 v_pairCount_39 v_parted_39 v_met_39 v_pairs_39 v_cameFrom_39 v_cameBy_39 (by omega) (by omega) (by omega) (by omega) (by omega) (by omega) (by omega) (by omega) (by omega) (by omega) (rp_mono h22 (by omega) (by omega)) (rp_mono h14 (by omega) (by omega)) (rp_mono h26 (by omega) (by omega)) (rp_mono h20 (by omega) (by omega)) (rp_mono h22 (by omega) (by omega)) (rp_mono h26 (by omega) (by omega))
      refine ⟨fun c44 => ?_, fun c44 => ?_⟩
      · have f28 : v_pairCount_39.toInt ≤ l1_39.toInt := i_le (a := v_pairCount_39.toInt) (b := l1_39.toInt) rfl rfl c44
        exact j_160  (by omega)
      · have f29 : l1_39.toInt < v_pairCount_39.toInt := i_nle (a := v_pairCount_39.toInt) (b := l1_39.toInt) rfl rfl c44
        refine ⟨fun c51 => ?_, fun c51 => ?_⟩
        · have f30 : 3600 ≤ l1_39.toInt := i_le (a := 3600) (b := l1_39.toInt) rfl rfl c51
          exfalso; omega
        · have f31 : l1_39.toInt < 3600 := i_nle (a := 3600) (b := l1_39.toInt) rfl rfl c51
          refine ⟨i_in (by omega) (by omega), ?_⟩
          intro x59 ex59
          intro x62 ex62
          refine ⟨i_in (by omega) (by omega), ?_⟩
          intro x69 ex69
          have f32 : x69.toInt = x59.toInt := congrArg Int32.toInt (ex69.trans ex59.symm)
          intro x72 ex72
          refine ok_X9_ends (by omega) (by omega) (fun r81 f33 => ?_)
          refine ok_X9_ends (by omega) (by omega) (fun r89 f34 => ?_)
          refine ok_X8_look (by omega) (by omega) (by omega) (by omega) (by omega) (by omega) (fun r92_0 r92_1 r92_2 f35 f36 f37 f38 f39 f40 f41 => ?_)
          have j_98 : ∀ n_98 : Nat, ∀ (l4_98 : Int32) (v_pairCount_98 : Int32) (v_met_98 : Nat → Int32) (v_pairs_98 : Nat → Int32) (v_cameFrom_98 : Nat → Int32) (v_cameBy_98 : Nat → Int32), 0 ≤ l4_98.toInt → l4_98.toInt ≤ v_alphabet_count.toInt → v_pairCount_39.toInt ≤ v_pairCount_98.toInt → v_pairCount_98.toInt ≤ 3600 → rp (fun k v => v < k ∧ -1 ≤ v) v_cameFrom_98 0 0 → rp (fun k v => v < k ∧ -1 ≤ v) v_cameFrom_98 l4_98.toInt 0 → rp (fun k v => v < k ∧ -1 ≤ v) v_cameFrom_98 l4_98.toInt l4_98.toInt → rp (fun k v => v < k ∧ -1 ≤ v) v_cameFrom_98 0 l1_39.toInt → rp (fun k v => v < k ∧ -1 ≤ v) v_cameFrom_98 l4_98.toInt l1_39.toInt → rp (fun k v => v < k ∧ -1 ≤ v) v_cameFrom_98 0 (v_parted_39.toInt + 1) → rp (fun k v => v < k ∧ -1 ≤ v) v_cameFrom_98 l4_98.toInt (v_parted_39.toInt + 1) → rp (fun k v => v < k ∧ -1 ≤ v) v_cameFrom_98 l1_39.toInt 0 → rp (fun k v => v < k ∧ -1 ≤ v) v_cameFrom_98 l1_39.toInt l1_39.toInt → rp (fun k v => v < k ∧ -1 ≤ v) v_cameFrom_98 l1_39.toInt (v_parted_39.toInt + 1) → rp (fun k v => v < k ∧ -1 ≤ v) v_cameFrom_98 (v_parted_39.toInt + 1) 0 → rp (fun k v => v < k ∧ -1 ≤ v) v_cameFrom_98 (v_parted_39.toInt + 1) l1_39.toInt → rp (fun k v => v < k ∧ -1 ≤ v) v_cameFrom_98 (v_parted_39.toInt + 1) (v_parted_39.toInt + 1) → rp (fun k v => v < k ∧ -1 ≤ v) v_cameFrom_98 0 r34_0.toInt → rp (fun k v => v < k ∧ -1 ≤ v) v_cameFrom_98 l4_98.toInt r34_0.toInt → rp (fun k v => v < k ∧ -1 ≤ v) v_cameFrom_98 0 v_pairCount_39.toInt → rp (fun k v => v < k ∧ -1 ≤ v) v_cameFrom_98 0 v_pairCount_98.toInt → rp (fun k v => v < k ∧ -1 ≤ v) v_cameFrom_98 l4_98.toInt v_pairCount_39.toInt → rp (fun k v => v < k ∧ -1 ≤ v) v_cameFrom_98 l4_98.toInt v_pairCount_98.toInt → rp (fun k v => v < k ∧ -1 ≤ v) v_cameFrom_98 l1_39.toInt r34_0.toInt → rp (fun k v => v < k ∧ -1 ≤ v) v_cameFrom_98 l1_39.toInt v_pairCount_39.toInt → rp (fun k v => v < k ∧ -1 ≤ v) v_cameFrom_98 l1_39.toInt v_pairCount_98.toInt → rp (fun k v => v < k ∧ -1 ≤ v) v_cameFrom_98 (v_parted_39.toInt + 1) r34_0.toInt → rp (fun k v => v < k ∧ -1 ≤ v) v_cameFrom_98 (v_parted_39.toInt + 1) v_pairCount_39.toInt → rp (fun k v => v < k ∧ -1 ≤ v) v_cameFrom_98 (v_parted_39.toInt + 1) v_pairCount_98.toInt → ((-1) * l4_98.toInt + 2147483648).toNat < n_98 → w_X8_walkBoth_98 v_alphabet_count v_alphabet_begins v_one_count v_one_width v_one_goes v_other_count v_other_width v_other_goes x21 Q (w_X8_walkBoth_39 v_alphabet_count v_alphabet_begins v_one_count v_one_width v_one_ahead v_one_goes v_other_count v_other_width v_other_ahead v_other_goes Q x21 n_39) l1_39 x62 x72 r92_0 r92_1 r92_2 n_98 l4_98 v_pairCount_98 v_met_98 v_pairs_98 v_cameFrom_98 v_cameBy_98 := by
            intro n_98
            induction n_98 with
            | zero =>
              intro l4_98 v_pairCount_98 v_met_98 v_pairs_98 v_cameFrom_98 v_cameBy_98 f42 f43 f44 f45 h46 h47 h48 h49 h50 h51 h52 h53 h54 h55 h56 h57 h58 h59 h60 h61 h62 h63 h64 h65 h66 h67 h68 h69 h70 hm_98
              exfalso; omega
            | succ n_98 ih_98 =>
              intro l4_98 v_pairCount_98 v_met_98 v_pairs_98 v_cameFrom_98 v_cameBy_98 f42 f43 f44 f45 h46 h47 h48 h49 h50 h51 h52 h53 h54 h55 h56 h57 h58 h59 h60 h61 h62 h63 h64 h65 h66 h67 h68 h69 h70 hm_98
              unfold w_X8_walkBoth_98
              unfold w_X8_walkBoth_98B
              refine ⟨fun c107 => ?_, fun c107 => ?_⟩
              · have f71 : v_alphabet_count.toInt ≤ l4_98.toInt := i_le (a := v_alphabet_count.toInt) (b := l4_98.toInt) rfl rfl c107
                intro x154 ex154
                have f72 : x154.toInt = l1_39.toInt + 1 := i_add (a := l1_39.toInt) (b := 1) ex154 rfl rfl (by omega) (by omega)
                exact ih_39 x154 r92_0 r92_1 v_pairCount_98 r92_2 v_met_98 v_pairs_98 v_cameFrom_98 v_cameBy_98  (by omega) (by omega) (by omega) (by omega) (by omega) (by omega) (by omega) (rp_mono h62 (by omega) (by omega)) (rp_mono h62 (by omega) (by omega)) (rp_mono h62 (by omega) (by omega)) (rp_mono h70 (by omega) (by omega)) (rp_mono h70 (by omega) (by omega)) (rp_mono h70 (by omega) (by omega)) (rp_mono h70 (by omega) (by omega)) (rp_mono h70 (by omega) (by omega)) (rp_mono h70 (by omega) (by omega)) (rp_mono h62 (by omega) (by omega)) (rp_mono h62 (by omega) (by omega)) (rp_mono h70 (by omega) (by omega)) (rp_mono h70 (by omega) (by omega)) (rp_mono h70 (by omega) (by omega)) (rp_mono h70 (by omega) (by omega)) (by have h8_0 := i_rng l1_39; have h8_1 := i_rng x154; omega)
              · have f73 : l4_98.toInt < v_alphabet_count.toInt := i_nle (a := v_alphabet_count.toInt) (b := l4_98.toInt) rfl rfl c107
                refine ok_X9_next (by omega) (by omega) (by omega) (by omega) (fun r118 => ?_)
                intro x123 ex123
                refine ok_X9_next (by omega) (by omega) (by omega) (by omega) (fun r131 => ?_)
                intro x134 ex134
                refine ok_X0_leastOf (by omega) (by omega) (fun r142 f74 => ?_)
                refine ok_X8_meet (by omega) (by omega) (by omega) (by omega) (rp_mono h62 (by omega) (by omega)) (fun r145_0 r145_1 r145_2 r145_3 r145_4 f75 f76 h77 h78 => ?_)
                intro x148 ex148
                have f79 : x148.toInt = l4_98.toInt + 1 := i_add (a := l4_98.toInt) (b := 1) ex148 rfl rfl (by omega) (by omega)
                exact ih_98 x148 r145_0 r145_1 r145_2 r145_3 r145_4  (by omega) (by omega) (by omega) (by omega) (rp_mono h78 (by omega) (by omega)) (rp_mono h78 (by omega) (by omega)) (rp_nil (by omega)) (rp_mono h78 (by omega) (by omega)) (rp_mono h78 (by omega) (by omega)) (rp_mono h78 (by omega) (by omega)) (rp_mono h78 (by omega) (by omega)) (rp_mono h78 (by omega) (by omega)) (rp_mono h78 (by omega) (by omega)) (rp_mono h78 (by omega) (by omega)) (rp_mono h78 (by omega) (by omega)) (rp_mono h78 (by omega) (by omega)) (rp_mono h78 (by omega) (by omega)) (rp_mono h78 (by omega) (by omega)) (rp_mono h78 (by omega) (by omega)) (rp_mono h78 (by omega) (by omega)) (rp_mono h78 (by omega) (by omega)) (rp_mono h78 (by omega) (by omega)) (rp_mono h78 (by omega) (by omega)) (rp_mono h78 (by omega) (by omega)) (rp_mono h78 (by omega) (by omega)) (rp_mono h78 (by omega) (by omega)) (rp_mono h78 (by omega) (by omega)) (rp_mono h78 (by omega) (by omega)) (rp_mono h78 (by omega) (by omega)) (by have h8_0 := i_rng l4_98; have h8_1 := i_rng x148; omega)
          exact ⟨(2147483648 : Int).toNat + 1, j_98   ((2147483648 : Int).toNat + 1) 0 v_pairCount_39 v_met_39 v_pairs_39 v_cameFrom_39 v_cameBy_39  (by omega) (by omega) (by omega) (by omega) (rp_mono h22 (by omega) (by omega)) (rp_mono h22 (by omega) (by omega)) (rp_mono h22 (by omega) (by omega)) (rp_mono h22 (by omega) (by omega)) (rp_mono h22 (by omega) (by omega)) (rp_mono h22 (by omega) (by omega)) (rp_mono h22 (by omega) (by omega)) (rp_mono h24 (by omega) (by omega)) (rp_mono h24 (by omega) (by omega)) (rp_mono h24 (by omega) (by omega)) (rp_mono h26 (by omega) (by omega)) (rp_mono h26 (by omega) (by omega)) (rp_mono h26 (by omega) (by omega)) (rp_mono h22 (by omega) (by omega)) (rp_mono h22 (by omega) (by omega)) (rp_mono h22 (by omega) (by omega)) (rp_mono h22 (by omega) (by omega)) (rp_mono h22 (by omega) (by omega)) (rp_mono h22 (by omega) (by omega)) (rp_mono h24 (by omega) (by omega)) (rp_mono h24 (by omega) (by omega)) (rp_mono h24 (by omega) (by omega)) (rp_mono h26 (by omega) (by omega)) (rp_mono h26 (by omega) (by omega)) (rp_mono h26 (by omega) (by omega)) (by omega)⟩
  exact ⟨(3600 : Int).toNat + 1, j_39   ((3600 : Int).toNat + 1) 0 false false r34_0 (-1) r34_1 r34_2 r34_3 r34_4  (by omega) (by omega) (by omega) (by omega) (by omega) (by omega) (by omega) (rp_mono h4 (by omega) (by omega)) (rp_mono h4 (by omega) (by omega)) (rp_mono h4 (by omega) (by omega)) (rp_mono h4 (by omega) (by omega)) (rp_mono h4 (by omega) (by omega)) (rp_mono h4 (by omega) (by omega)) (rp_mono h4 (by omega) (by omega)) (rp_mono h4 (by omega) (by omega)) (rp_mono h4 (by omega) (by omega)) (rp_mono h4 (by omega) (by omega)) (rp_mono h4 (by omega) (by omega)) (rp_mono h4 (by omega) (by omega)) (rp_mono h4 (by omega) (by omega)) (rp_mono h4 (by omega) (by omega)) (rp_mono h4 (by omega) (by omega)) (by omega)⟩
set_option maxHeartbeats 4000000 in
theorem ok_X8_writeParting {a1_items : Nat → Int32} {na1_items : Nat} {v_pairCount : Int32} {v_parted : Int32} {v_cameFrom : Nat → Int32} {v_cameBy : Nat → Int32} {Q : Int32 → Bool → (Nat → Int32) → Prop} (a0 : (na1_items : Int) ≤ 1000) (a1 : 0 ≤ v_pairCount.toInt) (a2 : v_pairCount.toInt ≤ 3600) (a3 : 0 ≤ v_parted.toInt + 1) (a4 : ((v_parted.toInt ≤ 0) ∨ (v_parted.toInt + 1 ≤ v_pairCount.toInt))) (b0 : rp (fun k v => v < k ∧ -1 ≤ v) v_cameFrom 0 v_pairCount.toInt) (hq : ∀ (oa1_count : Int32) (oa1_over : Bool) (oa1_items : Nat → Int32), 0 ≤ oa1_count.toInt + 1 → 0 ≤ oa1_count.toInt → oa1_count.toInt ≤ 3599 → oa1_count.toInt ≤ 3600 → oa1_count.toInt ≤ 3601 → oa1_count.toInt ≤ (na1_items : Int) → Q oa1_count oa1_over oa1_items) : w_X8_writeParting a1_items na1_items v_parted v_cameFrom v_cameBy Q := by
  have q_t : (bz true).toInt = 1 := rfl
  have q_f : (bz false).toInt = 0 := rfl
  unfold w_X8_writeParting
  refine ok_X7_empty  (fun r1_0 r1_1 f1 f2 => ?_)
  have j_9 : ∀ n_9 : Nat, ∀ (l2_9 : Int32) (a1_count_9 : Int32) (a1_over_9 : Bool) (a1_items_9 : Nat → Int32), 0 ≤ l2_9.toInt + 1 → l2_9.toInt ≤ v_parted.toInt → 0 ≤ a1_count_9.toInt → a1_count_9.toInt ≤ (na1_items : Int) → (l2_9.toInt + 2147483649).toNat < n_9 → w_X8_writeParting_9 na1_items v_cameFrom v_cameBy Q n_9 l2_9 a1_count_9 a1_over_9 a1_items_9 := by
    intro n_9
    induction n_9 with
    | zero =>
      intro l2_9 a1_count_9 a1_over_9 a1_items_9 f3 f4 f5 f6 hm_9
      exfalso; omega
    | succ n_9 ih_9 =>
      intro l2_9 a1_count_9 a1_over_9 a1_items_9 f3 f4 f5 f6 hm_9
      unfold w_X8_writeParting_9
      unfold w_X8_writeParting_9B
      have j_40 : l2_9.toInt ≤ 0 → w_X8_writeParting_40 na1_items Q a1_count_9 a1_over_9 a1_items_9 := by
        intro f7
        unfold w_X8_writeParting_40
        refine ok_X7_turnRound (by omega) (by omega) (by omega) (fun r41_0 => ?_)
        exact hq a1_count_9 a1_over_9 r41_0 (by omega) (by omega) (by omega) (by omega) (by omega) (by omega)
      refine ⟨fun c10 => ?_, fun c10 => ?_⟩
      · have f8 : l2_9.toInt ≤ 0 := i_le (a := l2_9.toInt) (b := 0) rfl rfl c10
        exact j_40  (by omega)
      · have f9 : 0 < l2_9.toInt := i_nle (a := l2_9.toInt) (b := 0) rfl rfl c10
        refine ⟨fun c17 => ?_, fun c17 => ?_⟩
        · have f10 : 3600 ≤ l2_9.toInt := i_le (a := 3600) (b := l2_9.toInt) rfl rfl c17
          exfalso; omega
        · have f11 : l2_9.toInt < 3600 := i_nle (a := 3600) (b := l2_9.toInt) rfl rfl c17
          refine ⟨i_in (by omega) (by omega), ?_⟩
          intro x26 ex26
          refine ok_X7_add (by omega) (by omega) (by omega) (fun r27_0 r27_1 r27_2 f12 f13 f14 f15 => ?_)
          refine ⟨i_in (by omega) (by omega), ?_⟩
          intro x35 ex35
          have f16 : x35.toInt + 1 ≤ l2_9.toInt ∧ 0 ≤ x35.toInt + 1 := by have h9 := rp_get (P := (fun k v => v < k ∧ -1 ≤ v)) (a := l2_9.toInt) b0 ex35 rfl (by omega) (by omega) (by omega); omega
          exact ih_9 x35 r27_0 r27_1 r27_2  (by omega) (by omega) (by omega) (by omega) (by have h8_0 := i_rng l2_9; have h8_1 := i_rng x35; omega)
  exact ⟨(v_parted.toInt + 2147483649).toNat + 1, j_9   ((v_parted.toInt + 2147483649).toNat + 1) v_parted r1_0 r1_1 a1_items  (by omega) (by omega) (by omega) (by omega) (by omega)⟩
