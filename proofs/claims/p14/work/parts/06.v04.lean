set_option maxHeartbeats 4000000 in
theorem ok_X4_isMark {p0 : Int32} {Q : Int32 → Prop} (hq : ∀ (r : Int32), ((r.toInt = 0) ∨ (r.toInt = 1)) → Q r) : w_X4_isMark p0 Q := by
  have q_t : (bz true).toInt = 1 := rfl
  have q_f : (bz false).toInt = 0 := rfl
  have q_0 : (0 : Int32).toInt = 0 := rfl
  have q_1 : (1 : Int32).toInt = 1 := rfl
  unfold w_X4_isMark
  have j_76 : w_X4_isMark_76 Q := by
    unfold w_X4_isMark_76
    exact hq 1 (by omega)
  refine ⟨fun c1_0 => ?_, fun c1_1 => ?_, fun c1_2 => ?_, fun c1_3 => ?_, fun c1_4 => ?_, fun c1_5 => ?_, fun c1_6 => ?_, fun c1_7 => ?_, ?_⟩
  · have f1 : p0.toInt = 33 := i_eq (a := p0.toInt) (b := 33) rfl rfl c1_0
    exact j_76  
  · have f2 : p0.toInt = 35 := i_eq (a := p0.toInt) (b := 35) rfl rfl c1_1
    exact j_76  
  · have f3 : p0.toInt = 37 := i_eq (a := p0.toInt) (b := 37) rfl rfl c1_2
    exact j_76  
  · have f4 : p0.toInt = 58 := i_eq (a := p0.toInt) (b := 58) rfl rfl c1_3
    exact j_76  
  · have f5 : p0.toInt = 60 := i_eq (a := p0.toInt) (b := 60) rfl rfl c1_4
    exact j_76  
  · have f6 : p0.toInt = 61 := i_eq (a := p0.toInt) (b := 61) rfl rfl c1_5
    exact j_76  
  · have f7 : p0.toInt = 64 := i_eq (a := p0.toInt) (b := 64) rfl rfl c1_6
    exact j_76  
  · have f8 : p0.toInt = 126 := i_eq (a := p0.toInt) (b := 126) rfl rfl c1_7
    exact j_76  
  · intro c1_0 c1_1 c1_2 c1_3 c1_4 c1_5 c1_6 c1_7
    have f9 : p0.toInt ≠ 33 := i_ne (a := p0.toInt) (b := 33) rfl rfl c1_0
    have f10 : p0.toInt ≠ 35 := i_ne (a := p0.toInt) (b := 35) rfl rfl c1_1
    have f11 : p0.toInt ≠ 37 := i_ne (a := p0.toInt) (b := 37) rfl rfl c1_2
    have f12 : p0.toInt ≠ 58 := i_ne (a := p0.toInt) (b := 58) rfl rfl c1_3
    have f13 : p0.toInt ≠ 60 := i_ne (a := p0.toInt) (b := 60) rfl rfl c1_4
    have f14 : p0.toInt ≠ 61 := i_ne (a := p0.toInt) (b := 61) rfl rfl c1_5
    have f15 : p0.toInt ≠ 64 := i_ne (a := p0.toInt) (b := 64) rfl rfl c1_6
    have f16 : p0.toInt ≠ 126 := i_ne (a := p0.toInt) (b := 126) rfl rfl c1_7
    exact hq 0 (by omega)
set_option maxHeartbeats 4000000 in
theorem ok_X4_markOfLook {p0 : Int32} {Q : Int32 → Prop} (hq : ∀ (r : Int32), 32 ≤ r.toInt → r.toInt ≤ 126 → Q r) : w_X4_markOfLook p0 Q := by
  have q_t : (bz true).toInt = 1 := rfl
  have q_f : (bz false).toInt = 0 := rfl
  have q_33 : (33 : Int32).toInt = 33 := rfl
  have q_60 : (60 : Int32).toInt = 60 := rfl
  have q_61 : (61 : Int32).toInt = 61 := rfl
  have q_126 : (126 : Int32).toInt = 126 := rfl
  unfold w_X4_markOfLook
  refine ⟨fun c1_0 => ?_, fun c1_1 => ?_, fun c1_2 => ?_, ?_⟩
  · have f1 : p0.toInt = 0 := i_eq (a := p0.toInt) (b := 0) rfl rfl c1_0
    exact hq 61 (by omega) (by omega)
  · have f2 : p0.toInt = 1 := i_eq (a := p0.toInt) (b := 1) rfl rfl c1_1
    exact hq 33 (by omega) (by omega)
  · have f3 : p0.toInt = 2 := i_eq (a := p0.toInt) (b := 2) rfl rfl c1_2
    exact hq 60 (by omega) (by omega)
  · intro c1_0 c1_1 c1_2
    have f4 : p0.toInt ≠ 0 := i_ne (a := p0.toInt) (b := 0) rfl rfl c1_0
    have f5 : p0.toInt ≠ 1 := i_ne (a := p0.toInt) (b := 1) rfl rfl c1_1
    have f6 : p0.toInt ≠ 2 := i_ne (a := p0.toInt) (b := 2) rfl rfl c1_2
    exact hq 126 (by omega) (by omega)
set_option maxHeartbeats 4000000 in
theorem ok_X4_isGrouped {p0 : Int32} {p1 : Int32} {p2 : Int32} {Q : Int32 → Prop} (hq : ∀ (r : Int32), 0 ≤ r.toInt → r.toInt ≤ 1 → Q r) : w_X4_isGrouped p0 p1 p2 Q := by
  have q_t : (bz true).toInt = 1 := rfl
  have q_f : (bz false).toInt = 0 := rfl
  have q_0 : (0 : Int32).toInt = 0 := rfl
  have q_1 : (1 : Int32).toInt = 1 := rfl
  unfold w_X4_isGrouped
  refine ⟨fun c2 => ?_, fun c2 => ?_⟩
  · have f1 : p2.toInt ≠ (-1) := i_ne (a := p2.toInt) (b := (-1)) rfl rfl c2
    refine ⟨fun c8_0 => ?_, fun c8_1 => ?_, fun c8_2 => ?_, ?_⟩
    · have f2 : p0.toInt = 5 := i_eq (a := p0.toInt) (b := 5) rfl rfl c8_0
      have j_52 : ∀ (s0_52 : Int32), ((s0_52.toInt = 0) ∨ (s0_52.toInt = 1)) → w_X4_isGrouped_52 Q s0_52 := by
        intro s0_52 f3
        unfold w_X4_isGrouped_52
        refine ⟨i_01 (by omega) (by omega), ?_⟩
        exact hq s0_52 (by omega) (by omega)
      have j_47 : ((p1.toInt = 5) ∨ (p1.toInt = 7)) → w_X4_isGrouped_47 Q := by
        intro f4
        unfold w_X4_isGrouped_47
        exact j_52 1 (by omega)
      refine ⟨fun c38 => ?_, fun c38 => ?_⟩
      · have f5 : p1.toInt = 5 := i_eq (a := p1.toInt) (b := 5) rfl rfl c38
        exact j_47  (by omega)
      · have f6 : p1.toInt ≠ 5 := i_ne (a := p1.toInt) (b := 5) rfl rfl c38
        refine ⟨fun c44 => ?_, fun c44 => ?_⟩
        · have f7 : p1.toInt ≠ 7 := i_ne (a := p1.toInt) (b := 7) rfl rfl c44
          exact j_52 0 (by omega)
        · have f8 : p1.toInt = 7 := i_eq (a := p1.toInt) (b := 7) rfl rfl c44
          exact j_47  (by omega)
    · have f9 : p0.toInt = 6 := i_eq (a := p0.toInt) (b := 6) rfl rfl c8_1
      have j_75 : ∀ (s0_75 : Int32), ((s0_75.toInt = 0) ∨ (s0_75.toInt = 1)) → w_X4_isGrouped_75 Q s0_75 := by
        intro s0_75 f10
        unfold w_X4_isGrouped_75
        refine ⟨i_01 (by omega) (by omega), ?_⟩
        exact hq s0_75 (by omega) (by omega)
      have j_70 : ((p1.toInt = 5) ∨ (p1.toInt = 7) ∨ (p1.toInt = 6)) → w_X4_isGrouped_70 Q := by
        intro f11
        unfold w_X4_isGrouped_70
        exact j_75 1 (by omega)
      refine ⟨fun c55 => ?_, fun c55 => ?_⟩
      · have f12 : p1.toInt = 5 := i_eq (a := p1.toInt) (b := 5) rfl rfl c55
        exact j_70  (by omega)
      · have f13 : p1.toInt ≠ 5 := i_ne (a := p1.toInt) (b := 5) rfl rfl c55
        refine ⟨fun c61 => ?_, fun c61 => ?_⟩
        · have f14 : p1.toInt = 7 := i_eq (a := p1.toInt) (b := 7) rfl rfl c61
          exact j_70  (by omega)
        · have f15 : p1.toInt ≠ 7 := i_ne (a := p1.toInt) (b := 7) rfl rfl c61
          refine ⟨fun c67 => ?_, fun c67 => ?_⟩
          · have f16 : p1.toInt ≠ 6 := i_ne (a := p1.toInt) (b := 6) rfl rfl c67
            exact j_75 0 (by omega)
          · have f17 : p1.toInt = 6 := i_eq (a := p1.toInt) (b := 6) rfl rfl c67
            exact j_70  (by omega)
    · have f18 : p0.toInt = 7 := i_eq (a := p0.toInt) (b := 7) rfl rfl c8_2
      have j_87 : ∀ (s0_87 : Int32), ((s0_87.toInt = 0) ∨ (s0_87.toInt = 1 ∧ p1.toInt = 7)) → w_X4_isGrouped_87 Q s0_87 := by
        intro s0_87 f19
        unfold w_X4_isGrouped_87
        refine ⟨i_01 (by omega) (by omega), ?_⟩
        exact hq s0_87 (by omega) (by omega)
      refine ⟨fun c79 => ?_, fun c79 => ?_⟩
      · have f20 : p1.toInt ≠ 7 := i_ne (a := p1.toInt) (b := 7) rfl rfl c79
        exact j_87 0 (by omega)
      · have f21 : p1.toInt = 7 := i_eq (a := p1.toInt) (b := 7) rfl rfl c79
        exact j_87 1 (by omega)
    · intro c8_0 c8_1 c8_2
      have f22 : p0.toInt ≠ 5 := i_ne (a := p0.toInt) (b := 5) rfl rfl c8_0
      have f23 : p0.toInt ≠ 6 := i_ne (a := p0.toInt) (b := 6) rfl rfl c8_1
      have f24 : p0.toInt ≠ 7 := i_ne (a := p0.toInt) (b := 7) rfl rfl c8_2
      exact hq 0 (by omega) (by omega)
  · have f25 : p2.toInt = (-1) := i_eq (a := p2.toInt) (b := (-1)) rfl rfl c2
    exact hq 0 (by omega) (by omega)
set_option maxHeartbeats 4000000 in
theorem ok_X4_writeEdge {p1 : Int32} {v_row_count : Int32} {v_row_over : Bool} {v_row_items : Nat → Int32} {nv_row_items : Nat} {Q : Int32 → Bool → (Nat → Int32) → Prop} (a0 : 0 ≤ v_row_count.toInt) (a1 : v_row_count.toInt ≤ (nv_row_items : Int)) (a2 : (nv_row_items : Int) ≤ 1000) (hq : ∀ (ov_row_count : Int32) (ov_row_over : Bool) (ov_row_items : Nat → Int32), 0 ≤ ov_row_count.toInt → ov_row_count.toInt ≤ (nv_row_items : Int) → v_row_count.toInt ≤ ov_row_count.toInt → ((p1.toInt ≤ 1 ∧ v_row_count.toInt ≤ ov_row_count.toInt) ∨ (2 ≤ p1.toInt)) → Q ov_row_count ov_row_over ov_row_items) : w_X4_writeEdge p1 v_row_count v_row_over v_row_items nv_row_items Q := by
  have q_t : (bz true).toInt = 1 := rfl
  have q_f : (bz false).toInt = 0 := rfl
  have q_36 : (36 : Int32).toInt = 36 := rfl
  have q_66 : (66 : Int32).toInt = 66 := rfl
  have q_92 : (92 : Int32).toInt = 92 := rfl
  have q_94 : (94 : Int32).toInt = 94 := rfl
  have q_98 : (98 : Int32).toInt = 98 := rfl
  unfold w_X4_writeEdge
  have j_54 : ∀ (v_row_count_54 : Int32) (v_row_over_54 : Bool) (v_row_items_54 : Nat → Int32), 0 ≤ v_row_count_54.toInt → v_row_count_54.toInt ≤ (nv_row_items : Int) → v_row_count.toInt ≤ v_row_count_54.toInt → ((p1.toInt ≤ 1 ∧ v_row_count.toInt ≤ v_row_count_54.toInt) ∨ (2 ≤ p1.toInt)) → w_X4_writeEdge_54 Q v_row_count_54 v_row_over_54 v_row_items_54 := by
    intro v_row_count_54 v_row_over_54 v_row_items_54 f1 f2 f3 f4
    unfold w_X4_writeEdge_54
    exact hq v_row_count_54 v_row_over_54 v_row_items_54 (by omega) (by omega) (by omega) (by omega)
  refine ⟨fun c2 => ?_, fun c2 => ?_⟩
  · have f5 : 2 ≤ p1.toInt := i_le (a := 2) (b := p1.toInt) rfl rfl c2
    refine ok_X7_add (by omega) (by omega) (by omega) (fun r32_0 r32_1 r32_2 f6 f7 f8 f9 => ?_)
    have j_51 : ∀ (s0_51 : Int32), ((s0_51.toInt = 66) ∨ (s0_51.toInt = 98 ∧ p1.toInt = 2)) → w_X4_writeEdge_51 nv_row_items Q s0_51 r32_0 r32_1 r32_2 := by
      intro s0_51 f10
      unfold w_X4_writeEdge_51
      refine ok_X7_add (by omega) (by omega) (by omega) (fun r51_0 r51_1 r51_2 f11 f12 f13 f14 => ?_)
      exact j_54 r51_0 r51_1 r51_2 (by omega) (by omega) (by omega) (by omega)
    refine ⟨fun c41 => ?_, fun c41 => ?_⟩
    · have f15 : p1.toInt ≠ 2 := i_ne (a := p1.toInt) (b := 2) rfl rfl c41
      exact j_51 66 (by omega)
    · have f16 : p1.toInt = 2 := i_eq (a := p1.toInt) (b := 2) rfl rfl c41
      exact j_51 98 (by omega)
  · have f17 : p1.toInt < 2 := i_nle (a := 2) (b := p1.toInt) rfl rfl c2
    have j_20 : ∀ (s0_20 : Int32), ((s0_20.toInt = 36) ∨ (s0_20.toInt = 94 ∧ p1.toInt = 0)) → w_X4_writeEdge_20 nv_row_items Q s0_20 v_row_count v_row_over v_row_items := by
      intro s0_20 f18
      unfold w_X4_writeEdge_20
      refine ok_X7_add (by omega) (by omega) (by omega) (fun r20_0 r20_1 r20_2 f19 f20 f21 f22 => ?_)
      exact j_54 r20_0 r20_1 r20_2 (by omega) (by omega) (by omega) (by omega)
    refine ⟨fun c10 => ?_, fun c10 => ?_⟩
    · have f23 : p1.toInt ≠ 0 := i_ne (a := p1.toInt) (b := 0) rfl rfl c10
      exact j_20 36 (by omega)
    · have f24 : p1.toInt = 0 := i_eq (a := p1.toInt) (b := 0) rfl rfl c10
      exact j_20 94 (by omega)
set_option maxHeartbeats 4000000 in
theorem ok_X4_writeCode {p1 : Int32} {v_row_count : Int32} {v_row_over : Bool} {v_row_items : Nat → Int32} {nv_row_items : Nat} {Q : Int32 → Bool → (Nat → Int32) → Prop} (a0 : 0 ≤ v_row_count.toInt) (a1 : v_row_count.toInt ≤ (nv_row_items : Int)) (a2 : (nv_row_items : Int) ≤ 1000) (hq : ∀ (ov_row_count : Int32) (ov_row_over : Bool) (ov_row_items : Nat → Int32), 0 ≤ ov_row_count.toInt + 1 → 0 ≤ ov_row_count.toInt → ov_row_count.toInt ≤ 1000 → ov_row_count.toInt ≤ (nv_row_items : Int) → v_row_count.toInt ≤ ov_row_count.toInt → Q ov_row_count ov_row_over ov_row_items) : w_X4_writeCode p1 v_row_count v_row_over v_row_items nv_row_items Q := by
  have q_t : (bz true).toInt = 1 := rfl
  have q_f : (bz false).toInt = 0 := rfl
  have q_12 : (12 : Int32).toInt = 12 := rfl
  have q_92 : (92 : Int32).toInt = 92 := rfl
  have q_120 : (120 : Int32).toInt = 120 := rfl
  unfold w_X4_writeCode
  refine ok_X7_add (by omega) (by omega) (by omega) (fun r6_0 r6_1 r6_2 f1 f2 f3 f4 => ?_)
  refine ok_X7_add (by omega) (by omega) (by omega) (fun r15_0 r15_1 r15_2 f5 f6 f7 f8 => ?_)
  have j_21 : ∀ n_21 : Nat, ∀ (l2_21 : Int32) (v_row_count_21 : Int32) (v_row_over_21 : Bool) (v_row_items_21 : Nat → Int32), l2_21.toInt ≤ 12 → r15_0.toInt ≤ v_row_count_21.toInt → v_row_count_21.toInt ≤ (nv_row_items : Int) → (l2_21.toInt + 2147483649).toNat < n_21 → w_X4_writeCode_21 p1 nv_row_items Q n_21 l2_21 v_row_count_21 v_row_over_21 v_row_items_21 := by
    intro n_21
    induction n_21 with
    | zero =>
      intro l2_21 v_row_count_21 v_row_over_21 v_row_items_21 f9 f10 f11 hm_21
      exfalso; omega
    | succ n_21 ih_21 =>
      intro l2_21 v_row_count_21 v_row_over_21 v_row_items_21 f9 f10 f11 hm_21
      unfold w_X4_writeCode_21
      unfold w_X4_writeCode_21B
      refine ⟨fun c22 => ?_, fun c22 => ?_⟩
      · have f12 : l2_21.toInt < 0 := i_lt (a := l2_21.toInt) (b := 0) rfl rfl c22
        exact hq v_row_count_21 v_row_over_21 v_row_items_21 (by omega) (by omega) (by omega) (by omega) (by omega)
      · have f13 : 0 ≤ l2_21.toInt := i_nlt (a := l2_21.toInt) (b := 0) rfl rfl c22
        intro x27 ex27
        intro x30 ex30
        have f14 : (0 ≤ x30.toInt ∧ x30.toInt ≤ 15) := i_andr ex30 (by decide)
        have j_56 : ∀ (s0_56 : Int32), ((10 ≤ x30.toInt ∧ s0_56.toInt = x30.toInt + 87) ∨ (x30.toInt ≤ 9 ∧ s0_56.toInt = x30.toInt + 48)) → w_X4_writeCode_56 nv_row_items Q (w_X4_writeCode_21 p1 nv_row_items Q n_21) s0_56 l2_21 v_row_count_21 v_row_over_21 v_row_items_21 := by
          intro s0_56 f15
          unfold w_X4_writeCode_56
          refine ok_X7_add (by omega) (by omega) (by omega) (fun r56_0 r56_1 r56_2 f16 f17 f18 f19 => ?_)
          intro x59 ex59
          have f20 : x59.toInt = l2_21.toInt + (-4) := i_add (a := l2_21.toInt) (b := (-4)) ex59 rfl rfl (by omega) (by omega)
          exact ih_21 x59 r56_0 r56_1 r56_2 (by omega) (by omega) (by omega) (by have h8_0 := i_rng l2_21; have h8_1 := i_rng x59; omega)
        refine ⟨fun c39 => ?_, fun c39 => ?_⟩
        · have f21 : 10 ≤ x30.toInt := i_le (a := 10) (b := x30.toInt) rfl rfl c39
          intro x52 ex52
          have f22 : x52.toInt = 97 + x30.toInt := i_add (a := 97) (b := x30.toInt) ex52 rfl rfl (by omega) (by omega)
          intro x55 ex55
          have f23 : x55.toInt = x52.toInt - 10 := i_sub (a := x52.toInt) (b := 10) ex55 rfl rfl (by omega) (by omega)
          exact j_56 x55 (by omega)
        · have f24 : x30.toInt < 10 := i_nle (a := 10) (b := x30.toInt) rfl rfl c39
          intro x45 ex45
          have f25 : x45.toInt = 48 + x30.toInt := i_add (a := 48) (b := x30.toInt) ex45 rfl rfl (by omega) (by omega)
          exact j_56 x45 (by omega)
  exact ⟨(2147483661 : Int).toNat + 1, j_21   ((2147483661 : Int).toNat + 1) 12 r15_0 r15_1 r15_2 (by omega) (by omega) (by omega) (by omega)⟩
set_option maxHeartbeats 4000000 in
theorem ok_X11_isTapeSign {p0 : Int32} {Q : Int32 → Prop} (hq : ∀ (r : Int32), ((r.toInt = 1 ∧ 32 ≤ p0.toInt ∧ p0.toInt ≤ 126) ∨ (r.toInt = 0)) → Q r) : w_X11_isTapeSign p0 Q := by
  have q_t : (bz true).toInt = 1 := rfl
  have q_f : (bz false).toInt = 0 := rfl
  have q_0 : (0 : Int32).toInt = 0 := rfl
  have q_1 : (1 : Int32).toInt = 1 := rfl
  unfold w_X11_isTapeSign
  have j_17 : ∀ (s0_17 : Int32), ((s0_17.toInt = 1 ∧ 32 ≤ p0.toInt ∧ p0.toInt ≤ 126) ∨ (s0_17.toInt = 0)) → w_X11_isTapeSign_17 Q s0_17 := by
    intro s0_17 f1
    unfold w_X11_isTapeSign_17
    refine ⟨i_01 (by omega) (by omega), ?_⟩
    exact hq s0_17 (by omega)
  have j_16 : ((p0.toInt ≤ 31) ∨ (32 ≤ p0.toInt ∧ 127 ≤ p0.toInt)) → w_X11_isTapeSign_16 Q := by
    intro f2
    unfold w_X11_isTapeSign_16
    exact j_17 0 (by omega)
  refine ⟨fun c3 => ?_, fun c3 => ?_⟩
  · have f3 : p0.toInt < 32 := i_lt (a := p0.toInt) (b := 32) rfl rfl c3
    exact j_16  (by omega)
  · have f4 : 32 ≤ p0.toInt := i_nlt (a := p0.toInt) (b := 32) rfl rfl c3
    refine ⟨fun c9 => ?_, fun c9 => ?_⟩
    · have f5 : 126 < p0.toInt := i_lt (a := 126) (b := p0.toInt) rfl rfl c9
      exact j_16  (by omega)
    · have f6 : p0.toInt ≤ 126 := i_nlt (a := 126) (b := p0.toInt) rfl rfl c9
      exact j_17 1 (by omega)
set_option maxHeartbeats 4000000 in
theorem ok_X4_writeMember {p1 : Int32} {v_row_count : Int32} {v_row_over : Bool} {v_row_items : Nat → Int32} {nv_row_items : Nat} {Q : Int32 → Bool → (Nat → Int32) → Prop} (a0 : 0 ≤ v_row_count.toInt) (a1 : v_row_count.toInt ≤ (nv_row_items : Int)) (a2 : (nv_row_items : Int) ≤ 1000) (hq : ∀ (ov_row_count : Int32) (ov_row_over : Bool) (ov_row_items : Nat → Int32), 0 ≤ ov_row_count.toInt → ov_row_count.toInt ≤ (nv_row_items : Int) → v_row_count.toInt ≤ ov_row_count.toInt → Q ov_row_count ov_row_over ov_row_items) : w_X4_writeMember p1 v_row_count v_row_over v_row_items nv_row_items Q := by
  have q_t : (bz true).toInt = 1 := rfl
  have q_f : (bz false).toInt = 0 := rfl
  have q_92 : (92 : Int32).toInt = 92 := rfl
  unfold w_X4_writeMember
  refine ok_X11_isTapeSign  (fun r1 f1 => ?_)
  refine ⟨fun c4 => ?_, fun c4 => ?_⟩
  · have f2 : r1.toInt ≠ 0 := i_ne (a := r1.toInt) (b := 0) rfl rfl c4
    have j_52 : ∀ (v_row_count_52 : Int32) (v_row_over_52 : Bool) (v_row_items_52 : Nat → Int32), 0 ≤ v_row_count_52.toInt → v_row_count_52.toInt ≤ (nv_row_items : Int) → v_row_count.toInt ≤ v_row_count_52.toInt → ((v_row_count_52.toInt = v_row_count.toInt) ∨ (0 ≤ v_row_count_52.toInt ∧ v_row_count_52.toInt ≤ (nv_row_items : Int) ∧ v_row_count.toInt ≤ v_row_count_52.toInt)) → w_X4_writeMember_52 p1 nv_row_items Q v_row_count_52 v_row_over_52 v_row_items_52 := by
      intro v_row_count_52 v_row_over_52 v_row_items_52 f3 f4 f5 f6
      unfold w_X4_writeMember_52
      refine ok_X7_add (by omega) (by omega) (by omega) (fun r57_0 r57_1 r57_2 f7 f8 f9 f10 => ?_)
      exact hq r57_0 r57_1 r57_2 (by omega) (by omega) (by omega)
    have j_43 : w_X4_writeMember_43 p1 nv_row_items Q v_row_count v_row_over v_row_items := by
      unfold w_X4_writeMember_43
      refine ok_X7_add (by omega) (by omega) (by omega) (fun r49_0 r49_1 r49_2 f11 f12 f13 f14 => ?_)
      exact j_52 r49_0 r49_1 r49_2 (by omega) (by omega) (by omega) (by omega)
    refine ⟨fun c16 => ?_, fun c16 => ?_⟩
    · have f15 : p1.toInt = 91 := i_eq (a := p1.toInt) (b := 91) rfl rfl c16
      exact j_43  
    · have f16 : p1.toInt ≠ 91 := i_ne (a := p1.toInt) (b := 91) rfl rfl c16
      refine ⟨fun c22 => ?_, fun c22 => ?_⟩
      · have f17 : p1.toInt = 93 := i_eq (a := p1.toInt) (b := 93) rfl rfl c22
        exact j_43  
      · have f18 : p1.toInt ≠ 93 := i_ne (a := p1.toInt) (b := 93) rfl rfl c22
        refine ⟨fun c28 => ?_, fun c28 => ?_⟩
        · have f19 : p1.toInt = 94 := i_eq (a := p1.toInt) (b := 94) rfl rfl c28
          exact j_43  
        · have f20 : p1.toInt ≠ 94 := i_ne (a := p1.toInt) (b := 94) rfl rfl c28
          refine ⟨fun c34 => ?_, fun c34 => ?_⟩
          · have f21 : p1.toInt = 45 := i_eq (a := p1.toInt) (b := 45) rfl rfl c34
            exact j_43  
          · have f22 : p1.toInt ≠ 45 := i_ne (a := p1.toInt) (b := 45) rfl rfl c34
            refine ⟨fun c40 => ?_, fun c40 => ?_⟩
            · have f23 : p1.toInt ≠ 92 := i_ne (a := p1.toInt) (b := 92) rfl rfl c40
              exact j_52 v_row_count v_row_over v_row_items (by omega) (by omega) (by omega) (by omega)
            · have f24 : p1.toInt = 92 := i_eq (a := p1.toInt) (b := 92) rfl rfl c40
              exact j_43  
  · have f25 : r1.toInt = 0 := i_eq (a := r1.toInt) (b := 0) rfl rfl c4
    refine ok_X4_writeCode (by omega) (by omega) (by omega) (fun r9_0 r9_1 r9_2 f26 f27 f28 f29 f30 => ?_)
    exact hq r9_0 r9_1 r9_2 (by omega) (by omega) (by omega)
set_option maxHeartbeats 4000000 in
theorem ok_X4_writeSet {p2 : Int32} {v_row_count : Int32} {v_row_over : Bool} {v_row_items : Nat → Int32} {nv_row_items : Nat} {a1_count : Int32} {a1_ranges : Int32} {a1_sort : Nat → Int32} {a1_parts : Nat → Int32} {a1_value : Nat → Int32} {a1_low : Nat → Int32} {a1_high : Nat → Int32} {a1_rangeBegin : Nat → Int32} {a1_rangeEnd : Nat → Int32} {Q : Int32 → Bool → (Nat → Int32) → Prop} (a0 : 0 ≤ v_row_count.toInt) (a1 : v_row_count.toInt ≤ (nv_row_items : Int)) (a2 : (nv_row_items : Int) ≤ 1000) (a3 : 0 ≤ a1_count.toInt) (a4 : a1_count.toInt ≤ 256) (a5 : 0 ≤ a1_ranges.toInt) (a6 : a1_ranges.toInt ≤ 512) (hq : ∀ (ov_row_count : Int32) (ov_row_over : Bool) (ov_row_items : Nat → Int32), 0 ≤ ov_row_count.toInt → ov_row_count.toInt ≤ (nv_row_items : Int) → v_row_count.toInt ≤ ov_row_count.toInt → Q ov_row_count ov_row_over ov_row_items) : w_X4_writeSet p2 v_row_count v_row_over v_row_items nv_row_items a1_count a1_ranges a1_sort a1_parts a1_value a1_low a1_high a1_rangeBegin a1_rangeEnd Q := by
  have q_t : (bz true).toInt = 1 := rfl
  have q_f : (bz false).toInt = 0 := rfl
  have q_0 : (0 : Int32).toInt = 0 := rfl
  have q_45 : (45 : Int32).toInt = 45 := rfl
  have q_91 : (91 : Int32).toInt = 91 := rfl
  have q_93 : (93 : Int32).toInt = 93 := rfl
  have q_94 : (94 : Int32).toInt = 94 := rfl
  unfold w_X4_writeSet
  refine ok_X7_add (by omega) (by omega) (by omega) (fun r6_0 r6_1 r6_2 f1 f2 f3 f4 => ?_)
  refine ok_X10_valueOf (by omega) (by omega) (fun r11 f5 => ?_)
  have j_26 : ∀ (v_row_count_26 : Int32) (v_row_over_26 : Bool) (v_row_items_26 : Nat → Int32), 0 ≤ v_row_count_26.toInt → v_row_count_26.toInt ≤ (nv_row_items : Int) → v_row_count.toInt ≤ v_row_count_26.toInt → ((v_row_count_26.toInt = r6_0.toInt ∧ r11.toInt = 0) ∨ (0 ≤ v_row_count_26.toInt ∧ v_row_count_26.toInt ≤ (nv_row_items : Int) ∧ r6_0.toInt ≤ v_row_count_26.toInt)) → w_X4_writeSet_26 p2 nv_row_items a1_count a1_ranges a1_sort a1_parts a1_low a1_high a1_rangeBegin a1_rangeEnd Q v_row_count_26 v_row_over_26 v_row_items_26 := by
    intro v_row_count_26 v_row_over_26 v_row_items_26 f6 f7 f8 f9
    unfold w_X4_writeSet_26
    have j_28 : ∀ n_28 : Nat, ∀ (l3_28 : Int32) (v_row_count_28 : Int32) (v_row_over_28 : Bool) (v_row_items_28 : Nat → Int32), 0 ≤ l3_28.toInt → v_row_count_26.toInt ≤ v_row_count_28.toInt → v_row_count_28.toInt ≤ (nv_row_items : Int) → ((-1) * l3_28.toInt + 2147483648).toNat < n_28 → w_X4_writeSet_28 p2 nv_row_items a1_count a1_ranges a1_sort a1_parts a1_low a1_high a1_rangeBegin a1_rangeEnd Q n_28 l3_28 v_row_count_28 v_row_over_28 v_row_items_28 := by
      intro n_28
      induction n_28 with
      | zero =>
        intro l3_28 v_row_count_28 v_row_over_28 v_row_items_28 f10 f11 f12 hm_28
        exfalso; omega
      | succ n_28 ih_28 =>
        intro l3_28 v_row_count_28 v_row_over_28 v_row_items_28 f10 f11 f12 hm_28
        unfold w_X4_writeSet_28
        unfold w_X4_writeSet_28B
        refine ok_X10_partsOf (by omega) (by omega) (fun r31 f13 => ?_)
        refine ⟨fun c34 => ?_, fun c34 => ?_⟩
        · have f14 : r31.toInt ≤ l3_28.toInt := i_le (a := r31.toInt) (b := l3_28.toInt) rfl rfl c34
          refine ok_X7_add (by omega) (by omega) (by omega) (fun r93_0 r93_1 r93_2 f15 f16 f17 f18 => ?_)
          exact hq r93_0 r93_1 r93_2 (by omega) (by omega) (by omega)
        · have f19 : l3_28.toInt < r31.toInt := i_nle (a := r31.toInt) (b := l3_28.toInt) rfl rfl c34
          refine ok_X10_partBegin (by omega) (by omega) (by omega) (by omega) (fun r41 => ?_)
          refine ok_X4_writeMember (by omega) (by omega) (by omega) (fun r44_0 r44_1 r44_2 f20 f21 f22 => ?_)
          refine ok_X10_partEnd (by omega) (by omega) (by omega) (by omega) (fun r50 => ?_)
          refine ok_X10_partBegin (by omega) (by omega) (by omega) (by omega) (fun r56 => ?_)
          have j_81 : ∀ (v_row_count_81 : Int32) (v_row_over_81 : Bool) (v_row_items_81 : Nat → Int32), 0 ≤ v_row_count_81.toInt → v_row_count_81.toInt ≤ (nv_row_items : Int) → v_row_count.toInt ≤ v_row_count_81.toInt → v_row_count_28.toInt ≤ v_row_count_81.toInt → ((v_row_count_81.toInt = r44_0.toInt) ∨ (0 ≤ v_row_count_81.toInt ∧ v_row_count_81.toInt ≤ (nv_row_items : Int))) → w_X4_writeSet_81 Q (w_X4_writeSet_28 p2 nv_row_items a1_count a1_ranges a1_sort a1_parts a1_low a1_high a1_rangeBegin a1_rangeEnd Q n_28) l3_28 v_row_count_81 v_row_over_81 v_row_items_81 := by
            intro v_row_count_81 v_row_over_81 v_row_items_81 f23 f24 f25 f26 f27
            unfold w_X4_writeSet_81
            intro x81 ex81
            have f28 : x81.toInt = l3_28.toInt + 1 := i_add (a := l3_28.toInt) (b := 1) ex81 rfl rfl (by omega) (by have h8_1 := i_rng a1_count; have h8_2 := i_rng l3_28; have h8_3 := i_rng p2; have h8_4 := i_rng r11; have h8_5 := i_rng r31; have h8_6 := i_rng r44_0; have h8_7 := i_rng r6_0; have h8_8 := i_rng v_row_count; have h8_9 := i_rng v_row_count_26; have h8_10 := i_rng v_row_count_28; have h8_11 := i_rng v_row_count_81; omega)
            exact ih_28 x81 v_row_count_81 v_row_over_81 v_row_items_81 (by omega) (by omega) (by omega) (by have h8_0 := i_rng l3_28; have h8_1 := i_rng x81; omega)
          refine ⟨fun c59 => ?_, fun c59 => ?_⟩
          · have f29 : r50.toInt = r56.toInt := i_eq (a := r50.toInt) (b := r56.toInt) rfl rfl c59
            exact j_81 r44_0 r44_1 r44_2 (by omega) (by omega) (by omega) (by omega) (by omega)
          · have f30 : r50.toInt ≠ r56.toInt := i_ne (a := r50.toInt) (b := r56.toInt) rfl rfl c59
            refine ok_X7_add (by omega) (by omega) (by omega) (fun r68_0 r68_1 r68_2 f31 f32 f33 f34 => ?_)
            refine ok_X10_partEnd (by omega) (by omega) (by omega) (by omega) (fun r75 => ?_)
            refine ok_X4_writeMember (by omega) (by omega) (by omega) (fun r78_0 r78_1 r78_2 f35 f36 f37 => ?_)
            exact j_81 r78_0 r78_1 r78_2 (by omega) (by omega) (by omega) (by omega) (by omega)
    exact ⟨(2147483648 : Int).toNat + 1, j_28   ((2147483648 : Int).toNat + 1) 0 v_row_count_26 v_row_over_26 v_row_items_26 (by omega) (by omega) (by omega) (by omega)⟩
  refine ⟨fun c14 => ?_, fun c14 => ?_⟩
  · have f38 : r11.toInt = 0 := i_eq (a := r11.toInt) (b := 0) rfl rfl c14
    exact j_26 r6_0 r6_1 r6_2 (by omega) (by omega) (by omega) (by omega)
  · have f39 : r11.toInt ≠ 0 := i_ne (a := r11.toInt) (b := 0) rfl rfl c14
    refine ok_X7_add (by omega) (by omega) (by omega) (fun r23_0 r23_1 r23_2 f40 f41 f42 f43 => ?_)
    exact j_26 r23_0 r23_1 r23_2 (by omega) (by omega) (by omega) (by omega)
set_option maxHeartbeats 4000000 in
theorem ok_X11_isPlain {p0 : Int32} {Q : Int32 → Prop} (hq : ∀ (r : Int32), 0 ≤ r.toInt → r.toInt ≤ 1 → Q r) : w_X11_isPlain p0 Q := by
  have q_t : (bz true).toInt = 1 := rfl
  have q_f : (bz false).toInt = 0 := rfl
  have q_0 : (0 : Int32).toInt = 0 := rfl
  unfold w_X11_isPlain
  have j_124 : w_X11_isPlain_124 Q := by
    unfold w_X11_isPlain_124
    exact hq 0 (by omega) (by omega)
  refine ⟨fun c1_0 => ?_, fun c1_1 => ?_, fun c1_2 => ?_, fun c1_3 => ?_, fun c1_4 => ?_, fun c1_5 => ?_, fun c1_6 => ?_, fun c1_7 => ?_, fun c1_8 => ?_, fun c1_9 => ?_, fun c1_10 => ?_, fun c1_11 => ?_, fun c1_12 => ?_, fun c1_13 => ?_, ?_⟩
  · have f1 : p0.toInt = 36 := i_eq (a := p0.toInt) (b := 36) rfl rfl c1_0
    exact j_124  
  · have f2 : p0.toInt = 40 := i_eq (a := p0.toInt) (b := 40) rfl rfl c1_1
    exact j_124  
  · have f3 : p0.toInt = 41 := i_eq (a := p0.toInt) (b := 41) rfl rfl c1_2
    exact j_124  
  · have f4 : p0.toInt = 42 := i_eq (a := p0.toInt) (b := 42) rfl rfl c1_3
    exact j_124  
  · have f5 : p0.toInt = 43 := i_eq (a := p0.toInt) (b := 43) rfl rfl c1_4
    exact j_124  
  · have f6 : p0.toInt = 46 := i_eq (a := p0.toInt) (b := 46) rfl rfl c1_5
    exact j_124  
  · have f7 : p0.toInt = 63 := i_eq (a := p0.toInt) (b := 63) rfl rfl c1_6
    exact j_124  
  · have f8 : p0.toInt = 91 := i_eq (a := p0.toInt) (b := 91) rfl rfl c1_7
    exact j_124  
  · have f9 : p0.toInt = 92 := i_eq (a := p0.toInt) (b := 92) rfl rfl c1_8
    exact j_124  
  · have f10 : p0.toInt = 93 := i_eq (a := p0.toInt) (b := 93) rfl rfl c1_9
    exact j_124  
  · have f11 : p0.toInt = 94 := i_eq (a := p0.toInt) (b := 94) rfl rfl c1_10
    exact j_124  
  · have f12 : p0.toInt = 123 := i_eq (a := p0.toInt) (b := 123) rfl rfl c1_11
    exact j_124  
  · have f13 : p0.toInt = 124 := i_eq (a := p0.toInt) (b := 124) rfl rfl c1_12
    exact j_124  
  · have f14 : p0.toInt = 125 := i_eq (a := p0.toInt) (b := 125) rfl rfl c1_13
    exact j_124  
  · intro c1_0 c1_1 c1_2 c1_3 c1_4 c1_5 c1_6 c1_7 c1_8 c1_9 c1_10 c1_11 c1_12 c1_13
    have f15 : p0.toInt ≠ 36 := i_ne (a := p0.toInt) (b := 36) rfl rfl c1_0
    have f16 : p0.toInt ≠ 40 := i_ne (a := p0.toInt) (b := 40) rfl rfl c1_1
    have f17 : p0.toInt ≠ 41 := i_ne (a := p0.toInt) (b := 41) rfl rfl c1_2
    have f18 : p0.toInt ≠ 42 := i_ne (a := p0.toInt) (b := 42) rfl rfl c1_3
    have f19 : p0.toInt ≠ 43 := i_ne (a := p0.toInt) (b := 43) rfl rfl c1_4
    have f20 : p0.toInt ≠ 46 := i_ne (a := p0.toInt) (b := 46) rfl rfl c1_5
    have f21 : p0.toInt ≠ 63 := i_ne (a := p0.toInt) (b := 63) rfl rfl c1_6
    have f22 : p0.toInt ≠ 91 := i_ne (a := p0.toInt) (b := 91) rfl rfl c1_7
    have f23 : p0.toInt ≠ 92 := i_ne (a := p0.toInt) (b := 92) rfl rfl c1_8
    have f24 : p0.toInt ≠ 93 := i_ne (a := p0.toInt) (b := 93) rfl rfl c1_9
    have f25 : p0.toInt ≠ 94 := i_ne (a := p0.toInt) (b := 94) rfl rfl c1_10
    have f26 : p0.toInt ≠ 123 := i_ne (a := p0.toInt) (b := 123) rfl rfl c1_11
    have f27 : p0.toInt ≠ 124 := i_ne (a := p0.toInt) (b := 124) rfl rfl c1_12
    have f28 : p0.toInt ≠ 125 := i_ne (a := p0.toInt) (b := 125) rfl rfl c1_13
    refine ok_X11_isTapeSign  (fun r127 f29 => ?_)
    refine ⟨i_01 (by omega) (by omega), ?_⟩
    exact hq r127 (by omega) (by omega)
set_option maxHeartbeats 4000000 in
theorem ok_X8_longestBeginning {p2 : Int32} {a1_count : Int32} {a1_items : Nat → Int32} {na1_items : Nat} {v_alphabet_count : Int32} {v_alphabet_begins : Nat → Int32} {v_one_count : Int32} {v_one_width : Int32} {v_one_ahead : Nat → Int64} {v_one_goes : Nat → Int32} {v_one_live : Nat → Bool} {Q : Int32 → (Nat → Bool) → Prop} (a0 : 0 ≤ a1_count.toInt) (a1 : a1_count.toInt ≤ (na1_items : Int)) (a2 : (na1_items : Int) ≤ 1000) (a3 : 0 ≤ v_alphabet_count.toInt) (a4 : v_alphabet_count.toInt ≤ 256) (a5 : 0 ≤ v_one_count.toInt) (a6 : v_one_count.toInt ≤ 60) (a7 : 0 ≤ v_one_width.toInt) (a8 : v_one_width.toInt ≤ 256) (hq : ∀ (r : Int32) (ov_one_live : Nat → Bool), Q r ov_one_live) : w_X8_longestBeginning p2 a1_count a1_items na1_items v_alphabet_count v_alphabet_begins v_one_count v_one_width v_one_ahead v_one_goes v_one_live Q := by
  have q_t : (bz true).toInt = 1 := rfl
  have q_f : (bz false).toInt = 0 := rfl
  unfold w_X8_longestBeginning
  refine ok_X9_longestBeginning (by omega) (by omega) (by omega) (by omega) (by omega) (by omega) (by omega) (by omega) (by omega) (fun r10 r10_0 => ?_)
  exact hq r10 r10_0 
set_option maxHeartbeats 4000000 in
theorem ok_X8_meet {p1 : Int32} {p2 : Int32} {p3 : Int32} {v_stamp : Int32} {v_pairCount : Int32} {v_met : Nat → Int32} {v_pairs : Nat → Int32} {v_cameFrom : Nat → Int32} {v_cameBy : Nat → Int32} {Q : Int32 → (Nat → Int32) → (Nat → Int32) → (Nat → Int32) → (Nat → Int32) → Prop} (a0 : 0 ≤ v_pairCount.toInt) (a1 : v_pairCount.toInt ≤ 3600) (a2 : 0 ≤ p2.toInt + 1) (a3 : p2.toInt + 1 ≤ v_pairCount.toInt) (b0 : rp (fun k v => v < k ∧ -1 ≤ v) v_cameFrom 0 v_pairCount.toInt) (hq : ∀ (ov_pairCount : Int32) (ov_met : Nat → Int32) (ov_pairs : Nat → Int32) (ov_cameFrom : Nat → Int32) (ov_cameBy : Nat → Int32), v_pairCount.toInt ≤ ov_pairCount.toInt → ((0 ≤ p1.toInt ∧ p1.toInt ≤ 3599 ∧ v_pairCount.toInt ≤ 3599 ∧ ov_pairCount.toInt = v_pairCount.toInt + 1) ∨ (ov_pairCount.toInt = v_pairCount.toInt)) → rp (fun k v => v < k ∧ -1 ≤ v) ov_cameFrom 0 v_pairCount.toInt → rp (fun k v => v < k ∧ -1 ≤ v) ov_cameFrom 0 ov_pairCount.toInt → Q ov_pairCount ov_met ov_pairs ov_cameFrom ov_cameBy) : w_X8_meet p1 p2 p3 v_stamp v_pairCount v_met v_pairs v_cameFrom v_cameBy Q := by
  have q_t : (bz true).toInt = 1 := rfl
  have q_f : (bz false).toInt = 0 := rfl
  unfold w_X8_meet
  have j_34 : w_X8_meet_34 Q v_pairCount v_met v_pairs v_cameFrom v_cameBy := by
    unfold w_X8_meet_34
    exact hq v_pairCount v_met v_pairs v_cameFrom v_cameBy (by omega) (by omega) (rp_mono b0 (by omega) (by omega)) (rp_mono b0 (by omega) (by omega))
  refine ⟨fun c1 => ?_, fun c1 => ?_⟩
  · have f1 : p1.toInt < 0 := i_lt (a := p1.toInt) (b := 0) rfl rfl c1
    exact j_34  
  · have f2 : 0 ≤ p1.toInt := i_nlt (a := p1.toInt) (b := 0) rfl rfl c1
    refine ⟨fun c8 => ?_, fun c8 => ?_⟩
    · have f3 : 3600 ≤ p1.toInt := i_le (a := 3600) (b := p1.toInt) rfl rfl c8
      exact j_34  
    · have f4 : p1.toInt < 3600 := i_nle (a := 3600) (b := p1.toInt) rfl rfl c8
      refine ⟨i_in (by omega) (by omega), ?_⟩
      intro x16 ex16
      refine ⟨fun c21 => ?_, fun c21 => ?_⟩
      · have f5 : x16.toInt = v_stamp.toInt := i_eq (a := x16.toInt) (b := v_stamp.toInt) rfl rfl c21
        exact j_34  
      · have f6 : x16.toInt ≠ v_stamp.toInt := i_ne (a := x16.toInt) (b := v_stamp.toInt) rfl rfl c21
        refine ⟨fun c31 => ?_, fun c31 => ?_⟩
        · have f7 : v_pairCount.toInt < 3600 := i_lt (a := v_pairCount.toInt) (b := 3600) rfl rfl c31
          refine ⟨i_in (by omega) (by omega), ?_⟩
          intro g44 eg44
          refine ⟨i_in (by omega) (by omega), ?_⟩
          intro g54 eg54
          refine ⟨i_in (by omega) (by omega), ?_⟩
          intro g64 eg64
          have h8 : rp (fun k v => v < k ∧ -1 ≤ v) g64 0 (v_pairCount.toInt + 1) := rp_ext (P := (fun k v => v < k ∧ -1 ≤ v)) (a := v_pairCount.toInt) (b := p2.toInt) b0 eg64 rfl rfl (by omega) (by omega) ⟨(by omega), (by omega)⟩
          refine ⟨i_in (by omega) (by omega), ?_⟩
          intro g74 eg74
          intro x81 ex81
          have f9 : x81.toInt = v_pairCount.toInt + 1 := i_add (a := v_pairCount.toInt) (b := 1) ex81 rfl rfl (by omega) (by omega)
          exact hq x81 g44 g54 g64 g74 (by omega) (by omega) (rp_mono h8 (by omega) (by omega)) (rp_mono h8 (by omega) (by omega))
        · have f10 : 3600 ≤ v_pairCount.toInt := i_nlt (a := v_pairCount.toInt) (b := 3600) rfl rfl c31
          exact j_34  
set_option maxHeartbeats 4000000 in
theorem ok_X8_look {p1 : Int32} {p2 : Int32} {p3 : Int32} {v_onlyInOne : Bool} {v_onlyInOther : Bool} {v_parted : Int32} {Q : Bool → Bool → Int32 → Prop} (a0 : 0 ≤ v_parted.toInt + 1) (a1 : 0 ≤ p2.toInt) (a2 : p2.toInt ≤ 1) (a3 : 0 ≤ p3.toInt) (a4 : p3.toInt ≤ 1) (a5 : 0 ≤ p1.toInt) (hq : ∀ (ov_onlyInOne : Bool) (ov_onlyInOther : Bool) (ov_parted : Int32), 0 ≤ (bz ov_onlyInOne).toInt → (bz ov_onlyInOne).toInt ≤ 1 → 0 ≤ (bz ov_onlyInOther).toInt → (bz ov_onlyInOther).toInt ≤ 1 → 0 ≤ ov_parted.toInt + 1 → v_parted.toInt ≤ ov_parted.toInt → ((ov_parted.toInt = v_parted.toInt ∧ p2.toInt = p3.toInt) ∨ (ov_parted.toInt = v_parted.toInt) ∨ (ov_parted.toInt = p1.toInt ∧ v_parted.toInt + 1 = 0)) → Q ov_onlyInOne ov_onlyInOther ov_parted) : w_X8_look p1 p2 p3 v_onlyInOne v_onlyInOther v_parted Q := by
  have q_t : (bz true).toInt = 1 := rfl
  have q_f : (bz false).toInt = 0 := rfl
  have q_0 : (0 : Int32).toInt = 0 := rfl
  have q_1 : (1 : Int32).toInt = 1 := rfl
  unfold w_X8_look
  have f1 : (0 ≤ (bz v_onlyInOne).toInt ∧ (bz v_onlyInOne).toInt ≤ 1) := i_bzr v_onlyInOne
  have j_18 : ∀ (s0_18 : Int32), ((s0_18.toInt = 1 ∧ p3.toInt = 0) ∨ (s0_18.toInt = 0)) → w_X8_look_18 p1 p2 p3 Q s0_18 (bz v_onlyInOne) v_onlyInOne v_onlyInOther v_parted := by
    intro s0_18 f2
    unfold w_X8_look_18
    intro x18 ex18
    have f3 : (0 ≤ x18.toInt ∧ x18.toInt ≤ 1) := i_or01 (a := (bz v_onlyInOne).toInt) (b := s0_18.toInt) ex18 rfl rfl (by omega) (by omega) (by omega) (by omega)
    refine ⟨i_01 (by omega) (by omega), ?_⟩
    intro b19 eb19
    have f4 : (bz b19).toInt = x18.toInt := by rw [← eb19]
    have f5 : (0 ≤ (bz v_onlyInOther).toInt ∧ (bz v_onlyInOther).toInt ≤ 1) := i_bzr v_onlyInOther
    have j_40 : ∀ (s0_40 : Int32), ((s0_40.toInt = 1 ∧ p2.toInt = 0) ∨ (s0_40.toInt = 0)) → w_X8_look_40 p1 p2 p3 Q s0_40 (bz v_onlyInOther) b19 v_onlyInOther v_parted := by
      intro s0_40 f6
      unfold w_X8_look_40
      intro x40 ex40
      have f7 : (0 ≤ x40.toInt ∧ x40.toInt ≤ 1) := i_or01 (a := (bz v_onlyInOther).toInt) (b := s0_40.toInt) ex40 rfl rfl (by omega) (by omega) (by omega) (by omega)
      refine ⟨i_01 (by omega) (by omega), ?_⟩
      intro b41 eb41
      have f8 : (bz b41).toInt = x40.toInt := by rw [← eb41]
      have j_62 : ∀ (v_parted_62 : Int32), 0 ≤ v_parted_62.toInt + 1 → v_parted.toInt ≤ v_parted_62.toInt → ((v_parted_62.toInt = v_parted.toInt ∧ p2.toInt = p3.toInt) ∨ (v_parted_62.toInt = v_parted.toInt) ∨ (v_parted_62.toInt = p1.toInt ∧ v_parted.toInt + 1 = 0)) → w_X8_look_62 Q b19 b41 v_parted_62 := by
        intro v_parted_62 f9 f10 f11
        unfold w_X8_look_62
        exact hq b19 b41 v_parted_62 (by omega) (by omega) (by omega) (by omega) (by omega) (by omega) (by omega)
      refine ⟨fun c46 => ?_, fun c46 => ?_⟩
      · have f12 : p2.toInt = p3.toInt := i_eq (a := p2.toInt) (b := p3.toInt) rfl rfl c46
        exact j_62 v_parted (by omega) (by omega) (by omega)
      · have f13 : p2.toInt ≠ p3.toInt := i_ne (a := p2.toInt) (b := p3.toInt) rfl rfl c46
        refine ⟨fun c54 => ?_, fun c54 => ?_⟩
        · have f14 : v_parted.toInt ≠ (-1) := i_ne (a := v_parted.toInt) (b := (-1)) rfl rfl c54
          exact j_62 v_parted (by omega) (by omega) (by omega)
        · have f15 : v_parted.toInt = (-1) := i_eq (a := v_parted.toInt) (b := (-1)) rfl rfl c54
          exact j_62 p1 (by omega) (by omega) (by omega)
    have j_39 : w_X8_look_39 p1 p2 p3 Q (bz v_onlyInOther) b19 v_onlyInOther v_parted := by
      unfold w_X8_look_39
      exact j_40 0 (by omega)
    refine ⟨fun c28 => ?_, fun c28 => ?_⟩
    · have f16 : p3.toInt = 0 := i_eq (a := p3.toInt) (b := 0) rfl rfl c28
      exact j_39  
    · have f17 : p3.toInt ≠ 0 := i_ne (a := p3.toInt) (b := 0) rfl rfl c28
      refine ⟨fun c32 => ?_, fun c32 => ?_⟩
      · have f18 : p2.toInt ≠ 0 := i_ne (a := p2.toInt) (b := 0) rfl rfl c32
        exact j_39  
      · have f19 : p2.toInt = 0 := i_eq (a := p2.toInt) (b := 0) rfl rfl c32
        exact j_40 1 (by omega)
  have j_17 : w_X8_look_17 p1 p2 p3 Q (bz v_onlyInOne) v_onlyInOne v_onlyInOther v_parted := by
    unfold w_X8_look_17
    exact j_18 0 (by omega)
  refine ⟨fun c6 => ?_, fun c6 => ?_⟩
  · have f20 : p2.toInt = 0 := i_eq (a := p2.toInt) (b := 0) rfl rfl c6
    exact j_17  
  · have f21 : p2.toInt ≠ 0 := i_ne (a := p2.toInt) (b := 0) rfl rfl c6
    refine ⟨fun c10 => ?_, fun c10 => ?_⟩
    · have f22 : p3.toInt ≠ 0 := i_ne (a := p3.toInt) (b := 0) rfl rfl c10
      exact j_17  
    · have f23 : p3.toInt = 0 := i_eq (a := p3.toInt) (b := 0) rfl rfl c10
      exact j_18 1 (by omega)
set_option maxHeartbeats 4000000 in
theorem ok_X8_walkBoth {v_stamp : Int32} {v_alphabet_count : Int32} {v_alphabet_begins : Nat → Int32} {v_one_count : Int32} {v_one_width : Int32} {v_one_ahead : Nat → Int64} {v_one_goes : Nat → Int32} {v_other_count : Int32} {v_other_width : Int32} {v_other_ahead : Nat → Int64} {v_other_goes : Nat → Int32} {v_met : Nat → Int32} {v_pairs : Nat → Int32} {v_cameFrom : Nat → Int32} {v_cameBy : Nat → Int32} {Q : Bool → Bool → Int32 → Int32 → Int32 → (Nat → Int32) → (Nat → Int32) → (Nat → Int32) → (Nat → Int32) → Prop} (a0 : 0 ≤ v_alphabet_count.toInt) (a1 : v_alphabet_count.toInt ≤ 256) (a2 : 0 ≤ v_one_count.toInt) (a3 : v_one_count.toInt ≤ 60) (a4 : 0 ≤ v_one_width.toInt) (a5 : v_one_width.toInt ≤ 256) (a6 : 0 ≤ v_other_count.toInt) (a7 : v_other_count.toInt ≤ 60) (a8 : 0 ≤ v_other_width.toInt) (a9 : v_other_width.toInt ≤ 256) (hq : ∀ (ov_onlyInOne : Bool) (ov_onlyInOther : Bool) (ov_stamp : Int32) (ov_pairCount : Int32) (ov_parted : Int32) (ov_met : Nat → Int32) (ov_pairs : Nat → Int32) (ov_cameFrom : Nat → Int32) (ov_cameBy : Nat → Int32), 0 ≤ ov_pairCount.toInt + 1 → 0 ≤ ov_pairCount.toInt → ov_pairCount.toInt ≤ 3600 → ov_pairCount.toInt ≤ 3601 → 0 ≤ ov_parted.toInt + 1 → ov_parted.toInt ≤ 3599 → ov_parted.toInt ≤ 3600 → ov_parted.toInt ≤ 3601 → ov_parted.toInt ≤ ov_pairCount.toInt → ((ov_parted.toInt ≤ 0) ∨ (ov_parted.toInt + 1 ≤ ov_pairCount.toInt)) → rp (fun k v => v < k ∧ -1 ≤ v) ov_cameFrom 0 0 → rp (fun k v => v < k ∧ -1 ≤ v) ov_cameFrom 0 (ov_parted.toInt + 1) → rp (fun k v => v < k ∧ -1 ≤ v) ov_cameFrom (ov_parted.toInt + 1) 0 → rp (fun k v => v < k ∧ -1 ≤ v) ov_cameFrom (ov_parted.toInt + 1) (ov_parted.toInt + 1) → rp (fun k v => v < k ∧ -1 ≤ v) ov_cameFrom 0 ov_pairCount.toInt → rp (fun k v => v < k ∧ -1 ≤ v) ov_cameFrom (ov_parted.toInt + 1) ov_pairCount.toInt → Q ov_onlyInOne ov_onlyInOther ov_stamp ov_pairCount ov_parted ov_met ov_pairs ov_cameFrom ov_cameBy) : w_X8_walkBoth v_stamp v_alphabet_count v_alphabet_begins v_one_count v_one_width v_one_ahead v_one_goes v_other_count v_other_width v_other_ahead v_other_goes v_met v_pairs v_cameFrom v_cameBy Q := by
  have q_t : (bz true).toInt = 1 := rfl
  have q_f : (bz false).toInt = 0 := rfl
  have q_m1 : ((-1) : Int32).toInt = (-1) := rfl
  have q_0 : (0 : Int32).toInt = 0 := rfl
  unfold w_X8_walkBoth
  intro x21 ex21
  refine ok_X8_meet (by omega) (by omega) (by omega) (by omega) (rp_nil (by omega)) (fun r34_0 r34_1 r34_2 r34_3 r34_4 f1 f2 h3 h4 => ?_)
  have j_39 : ∀ n_39 : Nat, ∀ (l1_39 : Int32) (v_onlyInOne_39 : Bool) (v_onlyInOther_39 : Bool) (v_pairCount_39 : Int32) (v_parted_39 : Int32) (v_met_39 : Nat → Int32) (v_pairs_39 : Nat → Int32) (v_cameFrom_39 : Nat → Int32) (v_cameBy_39 : Nat → Int32), 0 ≤ l1_39.toInt → l1_39.toInt ≤ v_pairCount_39.toInt → r34_0.toInt ≤ v_pairCount_39.toInt → v_parted_39.toInt ≤ l1_39.toInt → v_pairCount_39.toInt ≤ 3600 → 0 ≤ v_parted_39.toInt + 1 → ((v_parted_39.toInt ≤ 0) ∨ (v_parted_39.toInt + 1 ≤ v_pairCount_39.toInt)) → rp (fun k v => v < k ∧ -1 ≤ v) v_cameFrom_39 0 0 → rp (fun k v => v < k ∧ -1 ≤ v) v_cameFrom_39 0 l1_39.toInt → rp (fun k v => v < k ∧ -1 ≤ v) v_cameFrom_39 0 (v_parted_39.toInt + 1) → rp (fun k v => v < k ∧ -1 ≤ v) v_cameFrom_39 l1_39.toInt 0 → rp (fun k v => v < k ∧ -1 ≤ v) v_cameFrom_39 l1_39.toInt l1_39.toInt → rp (fun k v => v < k ∧ -1 ≤ v) v_cameFrom_39 l1_39.toInt (v_parted_39.toInt + 1) → rp (fun k v => v < k ∧ -1 ≤ v) v_cameFrom_39 (v_parted_39.toInt + 1) 0 → rp (fun k v => v < k ∧ -1 ≤ v) v_cameFrom_39 (v_parted_39.toInt + 1) l1_39.toInt → rp (fun k v => v < k ∧ -1 ≤ v) v_cameFrom_39 (v_parted_39.toInt + 1) (v_parted_39.toInt + 1) → rp (fun k v => v < k ∧ -1 ≤ v) v_cameFrom_39 0 r34_0.toInt → rp (fun k v => v < k ∧ -1 ≤ v) v_cameFrom_39 0 v_pairCount_39.toInt → rp (fun k v => v < k ∧ -1 ≤ v) v_cameFrom_39 l1_39.toInt r34_0.toInt → rp (fun k v => v < k ∧ -1 ≤ v) v_cameFrom_39 l1_39.toInt v_pairCount_39.toInt → rp (fun k v => v < k ∧ -1 ≤ v) v_cameFrom_39 (v_parted_39.toInt + 1) r34_0.toInt → rp (fun k v => v < k ∧ -1 ≤ v) v_cameFrom_39 (v_parted_39.toInt + 1) v_pairCount_39.toInt → ((-1) * l1_39.toInt + 3600).toNat < n_39 → w_X8_walkBoth_39 v_alphabet_count v_alphabet_begins v_one_count v_one_width v_one_ahead v_one_goes v_other_count v_other_width v_other_ahead v_other_goes Q x21 n_39 l1_39 v_onlyInOne_39 v_onlyInOther_39 v_pairCount_39 v_parted_39 v_met_39 v_pairs_39 v_cameFrom_39 v_cameBy_39 := by
    intro n_39
    induction n_39 with
    | zero =>
      intro l1_39 v_onlyInOne_39 v_onlyInOther_39 v_pairCount_39 v_parted_39 v_met_39 v_pairs_39 v_cameFrom_39 v_cameBy_39 f5 f6 f7 f8 f9 f10 f11 h12 h13 h14 h15 h16 h17 h18 h19 h20 h21 h22 h23 h24 h25 h26 hm_39
      exfalso; omega
    | succ n_39 ih_39 =>
      intro l1_39 v_onlyInOne_39 v_onlyInOther_39 v_pairCount_39 v_parted_39 v_met_39 v_pairs_39 v_cameFrom_39 v_cameBy_39 f5 f6 f7 f8 f9 f10 f11 h12 h13 h14 h15 h16 h17 h18 h19 h20 h21 h22 h23 h24 h25 h26 hm_39
      unfold w_X8_walkBoth_39
      unfold w_X8_walkBoth_39B
      have j_160 : v_pairCount_39.toInt ≤ l1_39.toInt → w_X8_walkBoth_160 Q v_onlyInOne_39 v_onlyInOther_39 x21 v_pairCount_39 v_parted_39 v_met_39 v_pairs_39 v_cameFrom_39 v_cameBy_39 := by
        intro f27
        unfold w_X8_walkBoth_160
        exact hq v_onlyInOne_39 v_onlyInOther_39 x21 v_pairCount_39 v_parted_39 v_met_39 v_pairs_39 v_cameFrom_39 v_cameBy_39 (by omega) (by omega) (by omega) (by omega) (by omega) (by omega) (by omega) (by omega) (by omega) (by omega) (rp_mono h22 (by omega) (by omega)) (rp_mono h14 (by omega) (by omega)) (rp_mono h26 (by omega) (by omega)) (rp_mono h20 (by omega) (by omega)) (rp_mono h22 (by omega) (by omega)) (rp_mono h26 (by omega) (by omega))
      refine ⟨fun c44 => ?_, fun c44 => ?_⟩
      · have f28 : v_pairCount_39.toInt ≤ l1_39.toInt := i_le (a := v_pairCount_39.toInt) (b := l1_39.toInt) rfl rfl c44
        exact j_160  (by omega)
      · have f29 : l1_39.toInt < v_pairCount_39.toInt := i_nle (a := v_pairCount_39.toInt) (b := l1_39.toInt) rfl rfl c44
        refine ⟨fun c51 => ?_, fun c51 => ?_⟩
        · have f30 : 3600 ≤ l1_39.toInt := i_le (a := 3600) (b := l1_39.toInt) rfl rfl c51
          exfalso; omega
        · have f31 : l1_39.toInt < 3600 := i_nle (a := 3600) (b := l1_39.toInt) rfl rfl c51
          refine ⟨i_in (by omega) (by omega), ?_⟩
          intro x59 ex59
          intro x62 ex62
          refine ⟨i_in (by omega) (by omega), ?_⟩
          intro x69 ex69
          have f32 : x69.toInt = x59.toInt := congrArg Int32.toInt (ex69.trans ex59.symm)
          intro x72 ex72
          refine ok_X9_ends (by omega) (by omega) (fun r81 f33 => ?_)
          refine ok_X9_ends (by omega) (by omega) (fun r89 f34 => ?_)
          refine ok_X8_look (by omega) (by omega) (by omega) (by omega) (by omega) (by omega) (fun r92_0 r92_1 r92_2 f35 f36 f37 f38 f39 f40 f41 => ?_)
          have j_98 : ∀ n_98 : Nat, ∀ (l4_98 : Int32) (v_pairCount_98 : Int32) (v_met_98 : Nat → Int32) (v_pairs_98 : Nat → Int32) (v_cameFrom_98 : Nat → Int32) (v_cameBy_98 : Nat → Int32), 0 ≤ l4_98.toInt → l4_98.toInt ≤ v_alphabet_count.toInt → v_pairCount_39.toInt ≤ v_pairCount_98.toInt → v_pairCount_98.toInt ≤ 3600 → rp (fun k v => v < k ∧ -1 ≤ v) v_cameFrom_98 0 0 → rp (fun k v => v < k ∧ -1 ≤ v) v_cameFrom_98 l4_98.toInt 0 → rp (fun k v => v < k ∧ -1 ≤ v) v_cameFrom_98 l4_98.toInt l4_98.toInt → rp (fun k v => v < k ∧ -1 ≤ v) v_cameFrom_98 0 l1_39.toInt → rp (fun k v => v < k ∧ -1 ≤ v) v_cameFrom_98 l4_98.toInt l1_39.toInt → rp (fun k v => v < k ∧ -1 ≤ v) v_cameFrom_98 0 (v_parted_39.toInt + 1) → rp (fun k v => v < k ∧ -1 ≤ v) v_cameFrom_98 l4_98.toInt (v_parted_39.toInt + 1) → rp (fun k v => v < k ∧ -1 ≤ v) v_cameFrom_98 l1_39.toInt 0 → rp (fun k v => v < k ∧ -1 ≤ v) v_cameFrom_98 l1_39.toInt l1_39.toInt → rp (fun k v => v < k ∧ -1 ≤ v) v_cameFrom_98 l1_39.toInt (v_parted_39.toInt + 1) → rp (fun k v => v < k ∧ -1 ≤ v) v_cameFrom_98 (v_parted_39.toInt + 1) 0 → rp (fun k v => v < k ∧ -1 ≤ v) v_cameFrom_98 (v_parted_39.toInt + 1) l1_39.toInt → rp (fun k v => v < k ∧ -1 ≤ v) v_cameFrom_98 (v_parted_39.toInt + 1) (v_parted_39.toInt + 1) → rp (fun k v => v < k ∧ -1 ≤ v) v_cameFrom_98 0 r34_0.toInt → rp (fun k v => v < k ∧ -1 ≤ v) v_cameFrom_98 l4_98.toInt r34_0.toInt → rp (fun k v => v < k ∧ -1 ≤ v) v_cameFrom_98 0 v_pairCount_39.toInt → rp (fun k v => v < k ∧ -1 ≤ v) v_cameFrom_98 0 v_pairCount_98.toInt → rp (fun k v => v < k ∧ -1 ≤ v) v_cameFrom_98 l4_98.toInt v_pairCount_39.toInt → rp (fun k v => v < k ∧ -1 ≤ v) v_cameFrom_98 l4_98.toInt v_pairCount_98.toInt → rp (fun k v => v < k ∧ -1 ≤ v) v_cameFrom_98 l1_39.toInt r34_0.toInt → rp (fun k v => v < k ∧ -1 ≤ v) v_cameFrom_98 l1_39.toInt v_pairCount_39.toInt → rp (fun k v => v < k ∧ -1 ≤ v) v_cameFrom_98 l1_39.toInt v_pairCount_98.toInt → rp (fun k v => v < k ∧ -1 ≤ v) v_cameFrom_98 (v_parted_39.toInt + 1) r34_0.toInt → rp (fun k v => v < k ∧ -1 ≤ v) v_cameFrom_98 (v_parted_39.toInt + 1) v_pairCount_39.toInt → rp (fun k v => v < k ∧ -1 ≤ v) v_cameFrom_98 (v_parted_39.toInt + 1) v_pairCount_98.toInt → ((-1) * l4_98.toInt + 2147483648).toNat < n_98 → w_X8_walkBoth_98 v_alphabet_count v_alphabet_begins v_one_count v_one_width v_one_goes v_other_count v_other_width v_other_goes x21 Q (w_X8_walkBoth_39 v_alphabet_count v_alphabet_begins v_one_count v_one_width v_one_ahead v_one_goes v_other_count v_other_width v_other_ahead v_other_goes Q x21 n_39) l1_39 x62 x72 r92_0 r92_1 r92_2 n_98 l4_98 v_pairCount_98 v_met_98 v_pairs_98 v_cameFrom_98 v_cameBy_98 := by
            intro n_98
            induction n_98 with
            | zero =>
              intro l4_98 v_pairCount_98 v_met_98 v_pairs_98 v_cameFrom_98 v_cameBy_98 f42 f43 f44 f45 h46 h47 h48 h49 h50 h51 h52 h53 h54 h55 h56 h57 h58 h59 h60 h61 h62 h63 h64 h65 h66 h67 h68 h69 h70 hm_98
              exfalso; omega
            | succ n_98 ih_98 =>
              intro l4_98 v_pairCount_98 v_met_98 v_pairs_98 v_cameFrom_98 v_cameBy_98 f42 f43 f44 f45 h46 h47 h48 h49 h50 h51 h52 h53 h54 h55 h56 h57 h58 h59 h60 h61 h62 h63 h64 h65 h66 h67 h68 h69 h70 hm_98
              unfold w_X8_walkBoth_98
              unfold w_X8_walkBoth_98B
              refine ⟨fun c107 => ?_, fun c107 => ?_⟩
              · have f71 : v_alphabet_count.toInt ≤ l4_98.toInt := i_le (a := v_alphabet_count.toInt) (b := l4_98.toInt) rfl rfl c107
                intro x154 ex154
                have f72 : x154.toInt = l1_39.toInt + 1 := i_add (a := l1_39.toInt) (b := 1) ex154 rfl rfl (by omega) (by omega)
                exact ih_39 x154 r92_0 r92_1 v_pairCount_98 r92_2 v_met_98 v_pairs_98 v_cameFrom_98 v_cameBy_98  (by omega) (by omega) (by omega) (by omega) (by omega) (by omega) (by omega) (rp_mono h62 (by omega) (by omega)) (rp_mono h62 (by omega) (by omega)) (rp_mono h62 (by omega) (by omega)) (rp_mono h70 (by omega) (by omega)) (rp_mono h70 (by omega) (by omega)) (rp_mono h70 (by omega) (by omega)) (rp_mono h70 (by omega) (by omega)) (rp_mono h70 (by omega) (by omega)) (rp_mono h70 (by omega) (by omega)) (rp_mono h62 (by omega) (by omega)) (rp_mono h62 (by omega) (by omega)) (rp_mono h70 (by omega) (by omega)) (rp_mono h70 (by omega) (by omega)) (rp_mono h70 (by omega) (by omega)) (rp_mono h70 (by omega) (by omega)) (by have h8_0 := i_rng l1_39; have h8_1 := i_rng x154; omega)
              · have f73 : l4_98.toInt < v_alphabet_count.toInt := i_nle (a := v_alphabet_count.toInt) (b := l4_98.toInt) rfl rfl c107
                refine ok_X9_next (by omega) (by omega) (by omega) (by omega) (fun r118 => ?_)
                intro x123 ex123
                refine ok_X9_next (by omega) (by omega) (by omega) (by omega) (fun r131 => ?_)
                intro x134 ex134
                refine ok_X0_leastOf (by omega) (by omega) (fun r142 f74 => ?_)
                refine ok_X8_meet (by omega) (by omega) (by omega) (by omega) (rp_mono h62 (by omega) (by omega)) (fun r145_0 r145_1 r145_2 r145_3 r145_4 f75 f76 h77 h78 => ?_)
                intro x148 ex148
                have f79 : x148.toInt = l4_98.toInt + 1 := i_add (a := l4_98.toInt) (b := 1) ex148 rfl rfl (by omega) (by omega)
                exact ih_98 x148 r145_0 r145_1 r145_2 r145_3 r145_4  (by omega) (by omega) (by omega) (by omega) (rp_mono h78 (by omega) (by omega)) (rp_mono h78 (by omega) (by omega)) (rp_nil (by omega)) (rp_mono h78 (by omega) (by omega)) (rp_mono h78 (by omega) (by omega)) (rp_mono h78 (by omega) (by omega)) (rp_mono h78 (by omega) (by omega)) (rp_mono h78 (by omega) (by omega)) (rp_mono h78 (by omega) (by omega)) (rp_mono h78 (by omega) (by omega)) (rp_mono h78 (by omega) (by omega)) (rp_mono h78 (by omega) (by omega)) (rp_mono h78 (by omega) (by omega)) (rp_mono h78 (by omega) (by omega)) (rp_mono h78 (by omega) (by omega)) (rp_mono h78 (by omega) (by omega)) (rp_mono h78 (by omega) (by omega)) (rp_mono h78 (by omega) (by omega)) (rp_mono h78 (by omega) (by omega)) (rp_mono h78 (by omega) (by omega)) (rp_mono h78 (by omega) (by omega)) (rp_mono h78 (by omega) (by omega)) (rp_mono h78 (by omega) (by omega)) (rp_mono h78 (by omega) (by omega)) (rp_mono h78 (by omega) (by omega)) (by have h8_0 := i_rng l4_98; have h8_1 := i_rng x148; omega)
          exact ⟨(2147483648 : Int).toNat + 1, j_98   ((2147483648 : Int).toNat + 1) 0 v_pairCount_39 v_met_39 v_pairs_39 v_cameFrom_39 v_cameBy_39  (by omega) (by omega) (by omega) (by omega) (rp_mono h22 (by omega) (by omega)) (rp_mono h22 (by omega) (by omega)) (rp_mono h22 (by omega) (by omega)) (rp_mono h22 (by omega) (by omega)) (rp_mono h22 (by omega) (by omega)) (rp_mono h22 (by omega) (by omega)) (rp_mono h22 (by omega) (by omega)) (rp_mono h24 (by omega) (by omega)) (rp_mono h24 (by omega) (by omega)) (rp_mono h24 (by omega) (by omega)) (rp_mono h26 (by omega) (by omega)) (rp_mono h26 (by omega) (by omega)) (rp_mono h26 (by omega) (by omega)) (rp_mono h22 (by omega) (by omega)) (rp_mono h22 (by omega) (by omega)) (rp_mono h22 (by omega) (by omega)) (rp_mono h22 (by omega) (by omega)) (rp_mono h22 (by omega) (by omega)) (rp_mono h22 (by omega) (by omega)) (rp_mono h24 (by omega) (by omega)) (rp_mono h24 (by omega) (by omega)) (rp_mono h24 (by omega) (by omega)) (rp_mono h26 (by omega) (by omega)) (rp_mono h26 (by omega) (by omega)) (rp_mono h26 (by omega) (by omega)) (by omega)⟩
  exact ⟨(3600 : Int).toNat + 1, j_39   ((3600 : Int).toNat + 1) 0 false false r34_0 (-1) r34_1 r34_2 r34_3 r34_4  (by omega) (by omega) (by omega) (by omega) (by omega) (by omega) (by omega) (rp_mono h4 (by omega) (by omega)) (rp_mono h4 (by omega) (by omega)) (rp_mono h4 (by omega) (by omega)) (rp_mono h4 (by omega) (by omega)) (rp_mono h4 (by omega) (by omega)) (rp_mono h4 (by omega) (by omega)) (rp_mono h4 (by omega) (by omega)) (rp_mono h4 (by omega) (by omega)) (rp_mono h4 (by omega) (by omega)) (rp_mono h4 (by omega) (by omega)) (rp_mono h4 (by omega) (by omega)) (rp_mono h4 (by omega) (by omega)) (rp_mono h4 (by omega) (by omega)) (rp_mono h4 (by omega) (by omega)) (rp_mono h4 (by omega) (by omega)) (by omega)⟩
set_option maxHeartbeats 4000000 in
theorem ok_X8_writeParting {a1_items : Nat → Int32} {na1_items : Nat} {v_pairCount : Int32} {v_parted : Int32} {v_cameFrom : Nat → Int32} {v_cameBy : Nat → Int32} {Q : Int32 → Bool → (Nat → Int32) → Prop} (a0 : (na1_items : Int) ≤ 1000) (a1 : 0 ≤ v_pairCount.toInt) (a2 : v_pairCount.toInt ≤ 3600) (a3 : 0 ≤ v_parted.toInt + 1) (a4 : ((v_parted.toInt ≤ 0) ∨ (v_parted.toInt + 1 ≤ v_pairCount.toInt))) (b0 : rp (fun k v => v < k ∧ -1 ≤ v) v_cameFrom 0 v_pairCount.toInt) (hq : ∀ (oa1_count : Int32) (oa1_over : Bool) (oa1_items : Nat → Int32), 0 ≤ oa1_count.toInt + 1 → 0 ≤ oa1_count.toInt → oa1_count.toInt ≤ 3599 → oa1_count.toInt ≤ 3600 → oa1_count.toInt ≤ 3601 → oa1_count.toInt ≤ (na1_items : Int) → Q oa1_count oa1_over oa1_items) : w_X8_writeParting a1_items na1_items v_parted v_cameFrom v_cameBy Q := by
  have q_t : (bz true).toInt = 1 := rfl
  have q_f : (bz false).toInt = 0 := rfl
  unfold w_X8_writeParting
  refine ok_X7_empty  (fun r1_0 r1_1 f1 f2 => ?_)
  have j_9 : ∀ n_9 : Nat, ∀ (l2_9 : Int32) (a1_count_9 : Int32) (a1_over_9 : Bool) (a1_items_9 : Nat → Int32), 0 ≤ l2_9.toInt + 1 → l2_9.toInt ≤ v_parted.toInt → 0 ≤ a1_count_9.toInt → a1_count_9.toInt ≤ (na1_items : Int) → (l2_9.toInt + 2147483649).toNat < n_9 → w_X8_writeParting_9 na1_items v_cameFrom v_cameBy Q n_9 l2_9 a1_count_9 a1_over_9 a1_items_9 := by
    intro n_9
    induction n_9 with
    | zero =>
      intro l2_9 a1_count_9 a1_over_9 a1_items_9 f3 f4 f5 f6 hm_9
      exfalso; omega
    | succ n_9 ih_9 =>
      intro l2_9 a1_count_9 a1_over_9 a1_items_9 f3 f4 f5 f6 hm_9
      unfold w_X8_writeParting_9
      unfold w_X8_writeParting_9B
      have j_40 : l2_9.toInt ≤ 0 → w_X8_writeParting_40 na1_items Q a1_count_9 a1_over_9 a1_items_9 := by
        intro f7
        unfold w_X8_writeParting_40
        refine ok_X7_turnRound (by omega) (by omega) (by omega) (fun r41_0 => ?_)
        exact hq a1_count_9 a1_over_9 r41_0 (by omega) (by omega) (by omega) (by omega) (by omega) (by omega)
      refine ⟨fun c10 => ?_, fun c10 => ?_⟩
      · have f8 : l2_9.toInt ≤ 0 := i_le (a := l2_9.toInt) (b := 0) rfl rfl c10
        exact j_40  (by omega)
      · have f9 : 0 < l2_9.toInt := i_nle (a := l2_9.toInt) (b := 0) rfl rfl c10
        refine ⟨fun c17 => ?_, fun c17 => ?_⟩
        · have f10 : 3600 ≤ l2_9.toInt := i_le (a := 3600) (b := l2_9.toInt) rfl rfl c17
          exfalso; omega
        · have f11 : l2_9.toInt < 3600 := i_nle (a := 3600) (b := l2_9.toInt) rfl rfl c17
          refine ⟨i_in (by omega) (by omega), ?_⟩
          intro x26 ex26
          refine ok_X7_add (by omega) (by omega) (by omega) (fun r27_0 r27_1 r27_2 f12 f13 f14 f15 => ?_)
          refine ⟨i_in (by omega) (by omega), ?_⟩
          intro x35 ex35
          have f16 : x35.toInt + 1 ≤ l2_9.toInt ∧ 0 ≤ x35.toInt + 1 := by have h9 := rp_get (P := (fun k v => v < k ∧ -1 ≤ v)) (a := l2_9.toInt) b0 ex35 rfl (by omega) (by omega) (by omega); omega
          exact ih_9 x35 r27_0 r27_1 r27_2  (by omega) (by omega) (by omega) (by omega) (by have h8_0 := i_rng l2_9; have h8_1 := i_rng x35; omega)
  exact ⟨(v_parted.toInt + 2147483649).toNat + 1, j_9   ((v_parted.toInt + 2147483649).toNat + 1) v_parted r1_0 r1_1 a1_items  (by omega) (by omega) (by omega) (by omega) (by omega)⟩
set_option maxHeartbeats 4000000 in
theorem ok_X4_writeSign {p1 : Int32} {v_row_count : Int32} {v_row_over : Bool} {v_row_items : Nat → Int32} {nv_row_items : Nat} {v_behindOpening : Int32} {Q : Int32 → Bool → (Nat → Int32) → Prop} (a0 : 0 ≤ v_row_count.toInt) (a1 : v_row_count.toInt ≤ (nv_row_items : Int)) (a2 : (nv_row_items : Int) ≤ 1000) (hq : ∀ (ov_row_count : Int32) (ov_row_over : Bool) (ov_row_items : Nat → Int32), 0 ≤ ov_row_count.toInt → ov_row_count.toInt ≤ (nv_row_items : Int) → v_row_count.toInt ≤ ov_row_count.toInt → Q ov_row_count ov_row_over ov_row_items) : w_X4_writeSign p1 v_row_count v_row_over v_row_items nv_row_items v_behindOpening Q := by
  have q_t : (bz true).toInt = 1 := rfl
  have q_f : (bz false).toInt = 0 := rfl
  have q_92 : (92 : Int32).toInt = 92 := rfl
  unfold w_X4_writeSign
  refine ok_X11_isTapeSign  (fun r1 f1 => ?_)
  have j_28 : ((r1.toInt = 0) ∨ (v_row_count.toInt = v_behindOpening.toInt)) → w_X4_writeSign_28 p1 nv_row_items Q v_row_count v_row_over v_row_items := by
    intro f2
    unfold w_X4_writeSign_28
    refine ok_X4_writeCode (by omega) (by omega) (by omega) (fun r30_0 r30_1 r30_2 f3 f4 f5 f6 f7 => ?_)
    exact hq r30_0 r30_1 r30_2 (by omega) (by omega) (by omega)
  refine ⟨fun c4 => ?_, fun c4 => ?_⟩
  · have f8 : r1.toInt = 0 := i_eq (a := r1.toInt) (b := 0) rfl rfl c4
    exact j_28  (by omega)
  · have f9 : r1.toInt ≠ 0 := i_ne (a := r1.toInt) (b := 0) rfl rfl c4
    have j_34 : w_X4_writeSign_34 p1 nv_row_items Q v_row_count v_row_over v_row_items := by
      unfold w_X4_writeSign_34
      refine ok_X11_isPlain  (fun r35 f10 f11 => ?_)
      have j_50 : ∀ (v_row_count_50 : Int32) (v_row_over_50 : Bool) (v_row_items_50 : Nat → Int32), 0 ≤ v_row_count_50.toInt → v_row_count_50.toInt ≤ (nv_row_items : Int) → v_row_count.toInt ≤ v_row_count_50.toInt → ((v_row_count_50.toInt = v_row_count.toInt) ∨ (r35.toInt = 0 ∧ 0 ≤ v_row_count_50.toInt ∧ v_row_count_50.toInt ≤ (nv_row_items : Int) ∧ v_row_count.toInt ≤ v_row_count_50.toInt)) → w_X4_writeSign_50 p1 nv_row_items Q v_row_count_50 v_row_over_50 v_row_items_50 := by
        intro v_row_count_50 v_row_over_50 v_row_items_50 f12 f13 f14 f15
        unfold w_X4_writeSign_50
        refine ok_X7_add (by omega) (by omega) (by omega) (fun r55_0 r55_1 r55_2 f16 f17 f18 f19 => ?_)
        exact hq r55_0 r55_1 r55_2 (by omega) (by omega) (by omega)
      refine ⟨fun c38 => ?_, fun c38 => ?_⟩
      · have f20 : r35.toInt ≠ 0 := i_ne (a := r35.toInt) (b := 0) rfl rfl c38
        exact j_50 v_row_count v_row_over v_row_items (by omega) (by omega) (by omega) (by omega)
      · have f21 : r35.toInt = 0 := i_eq (a := r35.toInt) (b := 0) rfl rfl c38
        refine ok_X7_add (by omega) (by omega) (by omega) (fun r47_0 r47_1 r47_2 f22 f23 f24 f25 => ?_)
        exact j_50 r47_0 r47_1 r47_2 (by omega) (by omega) (by omega) (by omega)
    refine ⟨fun c18 => ?_, fun c18 => ?_⟩
    · have f26 : v_row_count.toInt ≠ v_behindOpening.toInt := i_ne (a := v_row_count.toInt) (b := v_behindOpening.toInt) rfl rfl c18
      exact j_34  
    · have f27 : v_row_count.toInt = v_behindOpening.toInt := i_eq (a := v_row_count.toInt) (b := v_behindOpening.toInt) rfl rfl c18
      refine ok_X4_isMark  (fun r22 f28 => ?_)
      refine ⟨fun c25 => ?_, fun c25 => ?_⟩
      · have f29 : r22.toInt = 0 := i_eq (a := r22.toInt) (b := 0) rfl rfl c25
        exact j_34  
      · have f30 : r22.toInt ≠ 0 := i_ne (a := r22.toInt) (b := 0) rfl rfl c25
        exact j_28  (by omega)
set_option maxHeartbeats 4000000 in
theorem ok_X4_writeLeaf {p2 : Int32} {v_row_count : Int32} {v_row_over : Bool} {v_row_items : Nat → Int32} {nv_row_items : Nat} {v_behindOpening : Int32} {a1_count : Int32} {a1_ranges : Int32} {a1_sort : Nat → Int32} {a1_parts : Nat → Int32} {a1_value : Nat → Int32} {a1_low : Nat → Int32} {a1_high : Nat → Int32} {a1_rangeBegin : Nat → Int32} {a1_rangeEnd : Nat → Int32} {Q : Int32 → Bool → (Nat → Int32) → Prop} (a0 : 0 ≤ v_row_count.toInt) (a1 : v_row_count.toInt ≤ (nv_row_items : Int)) (a2 : (nv_row_items : Int) ≤ 1000) (a3 : 0 ≤ a1_count.toInt) (a4 : a1_count.toInt ≤ 256) (a5 : 0 ≤ a1_ranges.toInt) (a6 : a1_ranges.toInt ≤ 512) (hq : ∀ (ov_row_count : Int32) (ov_row_over : Bool) (ov_row_items : Nat → Int32), 0 ≤ ov_row_count.toInt → ov_row_count.toInt ≤ (nv_row_items : Int) → v_row_count.toInt ≤ ov_row_count.toInt → Q ov_row_count ov_row_over ov_row_items) : w_X4_writeLeaf p2 v_row_count v_row_over v_row_items nv_row_items v_behindOpening a1_count a1_ranges a1_sort a1_parts a1_value a1_low a1_high a1_rangeBegin a1_rangeEnd Q := by
  have q_t : (bz true).toInt = 1 := rfl
  have q_f : (bz false).toInt = 0 := rfl
  have q_46 : (46 : Int32).toInt = 46 := rfl
  have q_92 : (92 : Int32).toInt = 92 := rfl
  unfold w_X4_writeLeaf
  refine ok_X10_valueOf (by omega) (by omega) (fun r2 f1 => ?_)
  refine ok_X10_sortOf (by omega) (by omega) (fun r8 f2 => ?_)
  have j_97 : ∀ (v_row_count_97 : Int32) (v_row_over_97 : Bool) (v_row_items_97 : Nat → Int32), 0 ≤ v_row_count_97.toInt → v_row_count_97.toInt ≤ (nv_row_items : Int) → v_row_count.toInt ≤ v_row_count_97.toInt → w_X4_writeLeaf_97 Q v_row_count_97 v_row_over_97 v_row_items_97 := by
    intro v_row_count_97 v_row_over_97 v_row_items_97 f3 f4 f5
    unfold w_X4_writeLeaf_97
    exact hq v_row_count_97 v_row_over_97 v_row_items_97 (by omega) (by omega) (by omega)
  refine ⟨fun c11_0 => ?_, fun c11_1 => ?_, fun c11_2 => ?_, fun c11_3 => ?_, ?_⟩
  · have f6 : r8.toInt = 0 := i_eq (a := r8.toInt) (b := 0) rfl rfl c11_0
    refine ok_X4_writeSign (by omega) (by omega) (by omega) (fun r42_0 r42_1 r42_2 f7 f8 f9 => ?_)
    exact j_97 r42_0 r42_1 r42_2 (by omega) (by omega) (by omega)
  · have f10 : r8.toInt = 1 := i_eq (a := r8.toInt) (b := 1) rfl rfl c11_1
    refine ok_X7_add (by omega) (by omega) (by omega) (fun r54_0 r54_1 r54_2 f11 f12 f13 f14 => ?_)
    exact j_97 r54_0 r54_1 r54_2 (by omega) (by omega) (by omega)
  · have f15 : r8.toInt = 2 := i_eq (a := r8.toInt) (b := 2) rfl rfl c11_2
    refine ok_X4_writeSet (by omega) (by omega) (by omega) (by omega) (by omega) (by omega) (by omega) (fun r63_0 r63_1 r63_2 f16 f17 f18 => ?_)
    exact j_97 r63_0 r63_1 r63_2 (by omega) (by omega) (by omega)
  · have f19 : r8.toInt = 3 := i_eq (a := r8.toInt) (b := 3) rfl rfl c11_3
    refine ok_X4_writeEdge (by omega) (by omega) (by omega) (fun r71_0 r71_1 r71_2 f20 f21 f22 f23 => ?_)
    exact j_97 r71_0 r71_1 r71_2 (by omega) (by omega) (by omega)
  · intro c11_0 c11_1 c11_2 c11_3
    have f24 : r8.toInt ≠ 0 := i_ne (a := r8.toInt) (b := 0) rfl rfl c11_0
    have f25 : r8.toInt ≠ 1 := i_ne (a := r8.toInt) (b := 1) rfl rfl c11_1
    have f26 : r8.toInt ≠ 2 := i_ne (a := r8.toInt) (b := 2) rfl rfl c11_2
    have f27 : r8.toInt ≠ 3 := i_ne (a := r8.toInt) (b := 3) rfl rfl c11_3
    refine ok_X7_add (by omega) (by omega) (by omega) (fun r83_0 r83_1 r83_2 f28 f29 f30 f31 => ?_)
    intro x93 ex93
    refine ok_X7_add (by omega) (by omega) (by omega) (fun r94_0 r94_1 r94_2 f32 f33 f34 f35 => ?_)
    exact j_97 r94_0 r94_1 r94_2 (by omega) (by omega) (by omega)
set_option maxHeartbeats 4000000 in
theorem ok_X4_writeOpening {p2 : Int32} {v_row_count : Int32} {v_row_over : Bool} {v_row_items : Nat → Int32} {nv_row_items : Nat} {v_behindOpening : Int32} {a1_count : Int32} {a1_sort : Nat → Int32} {a1_value : Nat → Int32} {a1_low : Nat → Int32} {Q : Int32 → Bool → (Nat → Int32) → Int32 → Prop} (a0 : 0 ≤ v_row_count.toInt) (a1 : v_row_count.toInt ≤ (nv_row_items : Int)) (a2 : (nv_row_items : Int) ≤ 1000) (a3 : 0 ≤ a1_count.toInt) (a4 : a1_count.toInt ≤ 256) (hq : ∀ (ov_row_count : Int32) (ov_row_over : Bool) (ov_row_items : Nat → Int32) (ov_behindOpening : Int32), 0 ≤ ov_row_count.toInt → ov_row_count.toInt ≤ (nv_row_items : Int) → v_row_count.toInt ≤ ov_row_count.toInt → Q ov_row_count ov_row_over ov_row_items ov_behindOpening) : w_X4_writeOpening p2 v_row_count v_row_over v_row_items nv_row_items v_behindOpening a1_count a1_sort a1_value a1_low Q := by
  have q_t : (bz true).toInt = 1 := rfl
  have q_f : (bz false).toInt = 0 := rfl
  have q_37 : (37 : Int32).toInt = 37 := rfl
  have q_40 : (40 : Int32).toInt = 40 := rfl
  have q_42 : (42 : Int32).toInt = 42 := rfl
  have q_64 : (64 : Int32).toInt = 64 := rfl
  unfold w_X4_writeOpening
  refine ok_X10_sortOf (by omega) (by omega) (fun r2 f1 => ?_)
  have j_160 : ∀ (v_row_count_160 : Int32) (v_row_over_160 : Bool) (v_row_items_160 : Nat → Int32) (v_behindOpening_160 : Int32), 0 ≤ v_row_count_160.toInt → v_row_count_160.toInt ≤ (nv_row_items : Int) → v_row_count.toInt ≤ v_row_count_160.toInt → w_X4_writeOpening_160 Q v_row_count_160 v_row_over_160 v_row_items_160 v_behindOpening_160 := by
    intro v_row_count_160 v_row_over_160 v_row_items_160 v_behindOpening_160 f2 f3 f4
    unfold w_X4_writeOpening_160
    exact hq v_row_count_160 v_row_over_160 v_row_items_160 v_behindOpening_160 (by omega) (by omega) (by omega)
  refine ⟨fun c5_0 => ?_, fun c5_1 => ?_, fun c5_2 => ?_, fun c5_3 => ?_, ?_⟩
  · have f5 : r2.toInt = 8 := i_eq (a := r2.toInt) (b := 8) rfl rfl c5_0
    refine ok_X7_add (by omega) (by omega) (by omega) (fun r42_0 r42_1 r42_2 f6 f7 f8 f9 => ?_)
    refine ok_X10_lowOf (by omega) (by omega) (fun r47 f10 => ?_)
    refine ⟨fun c50 => ?_, fun c50 => ?_⟩
    · have f11 : r47.toInt = 0 := i_eq (a := r47.toInt) (b := 0) rfl rfl c50
      exact j_160 r42_0 r42_1 r42_2 r42_0 (by omega) (by omega) (by omega)
    · have f12 : r47.toInt ≠ 0 := i_ne (a := r47.toInt) (b := 0) rfl rfl c50
      refine ok_X7_add (by omega) (by omega) (by omega) (fun r59_0 r59_1 r59_2 f13 f14 f15 f16 => ?_)
      refine ok_X10_lowOf (by omega) (by omega) (fun r68 f17 => ?_)
      refine ok_X7_add (by omega) (by omega) (by omega) (fun r71_0 r71_1 r71_2 f18 f19 f20 f21 => ?_)
      exact j_160 r71_0 r71_1 r71_2 v_behindOpening (by omega) (by omega) (by omega)
  · have f22 : r2.toInt = 9 := i_eq (a := r2.toInt) (b := 9) rfl rfl c5_1
    refine ok_X7_add (by omega) (by omega) (by omega) (fun r97_0 r97_1 r97_2 f23 f24 f25 f26 => ?_)
    refine ok_X10_valueOf (by omega) (by omega) (fun r106 f27 => ?_)
    refine ok_X4_markOfLook  (fun r109 f28 f29 => ?_)
    refine ok_X7_add (by omega) (by omega) (by omega) (fun r112_0 r112_1 r112_2 f30 f31 f32 f33 => ?_)
    exact j_160 r112_0 r112_1 r112_2 v_behindOpening (by omega) (by omega) (by omega)
  · have f34 : r2.toInt = 10 := i_eq (a := r2.toInt) (b := 10) rfl rfl c5_2
    refine ok_X7_add (by omega) (by omega) (by omega) (fun r124_0 r124_1 r124_2 f35 f36 f37 f38 => ?_)
    refine ok_X7_add (by omega) (by omega) (by omega) (fun r133_0 r133_1 r133_2 f39 f40 f41 f42 => ?_)
    exact j_160 r133_0 r133_1 r133_2 v_behindOpening (by omega) (by omega) (by omega)
  · have f43 : r2.toInt = 11 := i_eq (a := r2.toInt) (b := 11) rfl rfl c5_3
    refine ok_X7_add (by omega) (by omega) (by omega) (fun r145_0 r145_1 r145_2 f44 f45 f46 f47 => ?_)
    refine ok_X7_add (by omega) (by omega) (by omega) (fun r154_0 r154_1 r154_2 f48 f49 f50 f51 => ?_)
    exact j_160 r154_0 r154_1 r154_2 v_behindOpening (by omega) (by omega) (by omega)
  · intro c5_0 c5_1 c5_2 c5_3
    have f52 : r2.toInt ≠ 8 := i_ne (a := r2.toInt) (b := 8) rfl rfl c5_0
    have f53 : r2.toInt ≠ 9 := i_ne (a := r2.toInt) (b := 9) rfl rfl c5_1
    have f54 : r2.toInt ≠ 10 := i_ne (a := r2.toInt) (b := 10) rfl rfl c5_2
    have f55 : r2.toInt ≠ 11 := i_ne (a := r2.toInt) (b := 11) rfl rfl c5_3
    exact j_160 v_row_count v_row_over v_row_items v_behindOpening (by omega) (by omega) (by omega)
set_option maxHeartbeats 4000000 in
theorem ok_X4_writeNumber {p1 : Int32} {v_row_count : Int32} {v_row_over : Bool} {v_row_items : Nat → Int32} {nv_row_items : Nat} {Q : Int32 → Bool → (Nat → Int32) → Prop} (a0 : 0 ≤ v_row_count.toInt) (a1 : v_row_count.toInt ≤ (nv_row_items : Int)) (a2 : (nv_row_items : Int) ≤ 1000) (hq : ∀ (ov_row_count : Int32) (ov_row_over : Bool) (ov_row_items : Nat → Int32), 0 ≤ ov_row_count.toInt → ov_row_count.toInt ≤ (nv_row_items : Int) → v_row_count.toInt ≤ ov_row_count.toInt → Q ov_row_count ov_row_over ov_row_items) : w_X4_writeNumber p1 v_row_count v_row_over v_row_items nv_row_items Q := by
  have q_t : (bz true).toInt = 1 := rfl
  have q_f : (bz false).toInt = 0 := rfl
  unfold w_X4_writeNumber
  have j_20 : ∀ (v_row_count_20 : Int32) (v_row_over_20 : Bool) (v_row_items_20 : Nat → Int32), 0 ≤ v_row_count_20.toInt → v_row_count_20.toInt ≤ (nv_row_items : Int) → v_row_count.toInt ≤ v_row_count_20.toInt → ((v_row_count_20.toInt = v_row_count.toInt ∧ p1.toInt ≤ 9) ∨ (10 ≤ p1.toInt ∧ 0 ≤ v_row_count_20.toInt ∧ v_row_count_20.toInt ≤ (nv_row_items : Int) ∧ v_row_count.toInt ≤ v_row_count_20.toInt)) → w_X4_writeNumber_20 p1 nv_row_items Q v_row_count_20 v_row_over_20 v_row_items_20 := by
    intro v_row_count_20 v_row_over_20 v_row_items_20 f1 f2 f3 f4
    unfold w_X4_writeNumber_20
    intro x29 ex29
    intro x30 ex30
    refine ok_X7_add (by omega) (by omega) (by omega) (fun r31_0 r31_1 r31_2 f5 f6 f7 f8 => ?_)
    exact hq r31_0 r31_1 r31_2 (by omega) (by omega) (by omega)
  refine ⟨fun c3 => ?_, fun c3 => ?_⟩
  · have f9 : p1.toInt < 10 := i_lt (a := p1.toInt) (b := 10) rfl rfl c3
    exact j_20 v_row_count v_row_over v_row_items (by omega) (by omega) (by omega) (by omega)
  · have f10 : 10 ≤ p1.toInt := i_nlt (a := p1.toInt) (b := 10) rfl rfl c3
    intro x15 ex15
    have f11 : (0 ≤ x15.toInt ∧ 10 * x15.toInt ≤ p1.toInt ∧ p1.toInt ≤ 10 * x15.toInt + 9) := by have h9 := i_div (b := 10) ex15 rfl (by decide) (by omega); omega
    intro x16 ex16
    have f12 : x16.toInt = 48 + x15.toInt := i_add (a := 48) (b := x15.toInt) ex16 rfl rfl (by omega) (by have h8_0 := i_rng p1; have h8_1 := i_rng x15; omega)
    refine ok_X7_add (by omega) (by omega) (by omega) (fun r17_0 r17_1 r17_2 f13 f14 f15 f16 => ?_)
    exact j_20 r17_0 r17_1 r17_2 (by omega) (by omega) (by omega) (by omega)
set_option maxHeartbeats 4000000 in
theorem ok_X4_writeLoop {p1 : Int32} {p2 : Int32} {v_row_count : Int32} {v_row_over : Bool} {v_row_items : Nat → Int32} {nv_row_items : Nat} {Q : Int32 → Bool → (Nat → Int32) → Prop} (a0 : 0 ≤ v_row_count.toInt) (a1 : v_row_count.toInt ≤ (nv_row_items : Int)) (a2 : (nv_row_items : Int) ≤ 1000) (hq : ∀ (ov_row_count : Int32) (ov_row_over : Bool) (ov_row_items : Nat → Int32), 0 ≤ ov_row_count.toInt → ov_row_count.toInt ≤ (nv_row_items : Int) → v_row_count.toInt ≤ ov_row_count.toInt → Q ov_row_count ov_row_over ov_row_items) : w_X4_writeLoop p1 p2 v_row_count v_row_over v_row_items nv_row_items Q := by
  have q_t : (bz true).toInt = 1 := rfl
  have q_f : (bz false).toInt = 0 := rfl
  have q_42 : (42 : Int32).toInt = 42 := rfl
  have q_43 : (43 : Int32).toInt = 43 := rfl
  have q_44 : (44 : Int32).toInt = 44 := rfl
  have q_63 : (63 : Int32).toInt = 63 := rfl
  have q_123 : (123 : Int32).toInt = 123 := rfl
  have q_125 : (125 : Int32).toInt = 125 := rfl
  unfold w_X4_writeLoop
  have j_29 : w_X4_writeLoop_29 p1 p2 nv_row_items Q v_row_count v_row_over v_row_items := by
    unfold w_X4_writeLoop_29
    have j_48 : w_X4_writeLoop_48 p1 p2 nv_row_items Q v_row_count v_row_over v_row_items := by
      unfold w_X4_writeLoop_48
      refine ok_X7_add (by omega) (by omega) (by omega) (fun r54_0 r54_1 r54_2 f1 f2 f3 f4 => ?_)
      refine ok_X4_writeNumber (by omega) (by omega) (by omega) (fun r59_0 r59_1 r59_2 f5 f6 f7 => ?_)
      have j_76 : ∀ (v_row_count_76 : Int32) (v_row_over_76 : Bool) (v_row_items_76 : Nat → Int32), 0 ≤ v_row_count_76.toInt → v_row_count_76.toInt ≤ (nv_row_items : Int) → v_row_count.toInt ≤ v_row_count_76.toInt → ((v_row_count_76.toInt = r59_0.toInt ∧ p2.toInt = p1.toInt) ∨ (0 ≤ v_row_count_76.toInt ∧ v_row_count_76.toInt ≤ (nv_row_items : Int) ∧ r59_0.toInt ≤ v_row_count_76.toInt)) → w_X4_writeLoop_76 p1 p2 nv_row_items Q v_row_count_76 v_row_over_76 v_row_items_76 := by
        intro v_row_count_76 v_row_over_76 v_row_items_76 f8 f9 f10 f11
        unfold w_X4_writeLoop_76
        have j_91 : ∀ (v_row_count_91 : Int32) (v_row_over_91 : Bool) (v_row_items_91 : Nat → Int32), 0 ≤ v_row_count_91.toInt → v_row_count_91.toInt ≤ (nv_row_items : Int) → v_row_count.toInt ≤ v_row_count_91.toInt → ((v_row_count_91.toInt = v_row_count_76.toInt ∧ p2.toInt = p1.toInt) ∨ (v_row_count_91.toInt = v_row_count_76.toInt ∧ p2.toInt + 1 = 0) ∨ (0 ≤ v_row_count_91.toInt ∧ v_row_count_91.toInt ≤ (nv_row_items : Int) ∧ v_row_count_76.toInt ≤ v_row_count_91.toInt)) → w_X4_writeLoop_91 nv_row_items Q v_row_count_91 v_row_over_91 v_row_items_91 := by
          intro v_row_count_91 v_row_over_91 v_row_items_91 f12 f13 f14 f15
          unfold w_X4_writeLoop_91
          refine ok_X7_add (by omega) (by omega) (by omega) (fun r97_0 r97_1 r97_2 f16 f17 f18 f19 => ?_)
          exact hq r97_0 r97_1 r97_2 (by omega) (by omega) (by omega)
        refine ⟨fun c78 => ?_, fun c78 => ?_⟩
        · have f20 : p2.toInt = p1.toInt := i_eq (a := p2.toInt) (b := p1.toInt) rfl rfl c78
          exact j_91 v_row_count_76 v_row_over_76 v_row_items_76 (by omega) (by omega) (by omega) (by omega)
        · have f21 : p2.toInt ≠ p1.toInt := i_ne (a := p2.toInt) (b := p1.toInt) rfl rfl c78
          refine ⟨fun c83 => ?_, fun c83 => ?_⟩
          · have f22 : p2.toInt = (-1) := i_eq (a := p2.toInt) (b := (-1)) rfl rfl c83
            exact j_91 v_row_count_76 v_row_over_76 v_row_items_76 (by omega) (by omega) (by omega) (by omega)
          · have f23 : p2.toInt ≠ (-1) := i_ne (a := p2.toInt) (b := (-1)) rfl rfl c83
            refine ok_X4_writeNumber (by omega) (by omega) (by omega) (fun r88_0 r88_1 r88_2 f24 f25 f26 => ?_)
            exact j_91 r88_0 r88_1 r88_2 (by omega) (by omega) (by omega) (by omega)
      refine ⟨fun c64 => ?_, fun c64 => ?_⟩
      · have f27 : p2.toInt = p1.toInt := i_eq (a := p2.toInt) (b := p1.toInt) rfl rfl c64
        exact j_76 r59_0 r59_1 r59_2 (by omega) (by omega) (by omega) (by omega)
      · have f28 : p2.toInt ≠ p1.toInt := i_ne (a := p2.toInt) (b := p1.toInt) rfl rfl c64
        refine ok_X7_add (by omega) (by omega) (by omega) (fun r73_0 r73_1 r73_2 f29 f30 f31 f32 => ?_)
        exact j_76 r73_0 r73_1 r73_2 (by omega) (by omega) (by omega) (by omega)
    refine ⟨fun c30 => ?_, fun c30 => ?_⟩
    · have f33 : p1.toInt ≠ 0 := i_ne (a := p1.toInt) (b := 0) rfl rfl c30
      exact j_48  
    · have f34 : p1.toInt = 0 := i_eq (a := p1.toInt) (b := 0) rfl rfl c30
      refine ⟨fun c35 => ?_, fun c35 => ?_⟩
      · have f35 : p2.toInt ≠ 1 := i_ne (a := p2.toInt) (b := 1) rfl rfl c35
        exact j_48  
      · have f36 : p2.toInt = 1 := i_eq (a := p2.toInt) (b := 1) rfl rfl c35
        refine ok_X7_add (by omega) (by omega) (by omega) (fun r44_0 r44_1 r44_2 f37 f38 f39 f40 => ?_)
        exact hq r44_0 r44_1 r44_2 (by omega) (by omega) (by omega)
  refine ⟨fun c2 => ?_, fun c2 => ?_⟩
  · have f41 : p2.toInt ≠ (-1) := i_ne (a := p2.toInt) (b := (-1)) rfl rfl c2
    exact j_29  
  · have f42 : p2.toInt = (-1) := i_eq (a := p2.toInt) (b := (-1)) rfl rfl c2
    refine ⟨fun c7 => ?_, fun c7 => ?_⟩
    · have f43 : 1 < p1.toInt := i_lt (a := 1) (b := p1.toInt) rfl rfl c7
      exact j_29  
    · have f44 : p1.toInt ≤ 1 := i_nlt (a := 1) (b := p1.toInt) rfl rfl c7
      have j_25 : ∀ (s0_25 : Int32), ((s0_25.toInt = 43) ∨ (s0_25.toInt = 42 ∧ p1.toInt = 0)) → w_X4_writeLoop_25 nv_row_items Q s0_25 v_row_count v_row_over v_row_items := by
        intro s0_25 f45
        unfold w_X4_writeLoop_25
        refine ok_X7_add (by omega) (by omega) (by omega) (fun r25_0 r25_1 r25_2 f46 f47 f48 f49 => ?_)
        exact hq r25_0 r25_1 r25_2 (by omega) (by omega) (by omega)
      refine ⟨fun c15 => ?_, fun c15 => ?_⟩
      · have f50 : p1.toInt ≠ 0 := i_ne (a := p1.toInt) (b := 0) rfl rfl c15
        exact j_25 43 (by omega)
      · have f51 : p1.toInt = 0 := i_eq (a := p1.toInt) (b := 0) rfl rfl c15
        exact j_25 42 (by omega)
set_option maxHeartbeats 4000000 in
theorem ok_X4_writeClosing {p2 : Int32} {v_row_count : Int32} {v_row_over : Bool} {v_row_items : Nat → Int32} {nv_row_items : Nat} {a1_count : Int32} {a1_sort : Nat → Int32} {a1_value : Nat → Int32} {a1_low : Nat → Int32} {a1_high : Nat → Int32} {Q : Int32 → Bool → (Nat → Int32) → Prop} (a0 : 0 ≤ v_row_count.toInt) (a1 : v_row_count.toInt ≤ (nv_row_items : Int)) (a2 : (nv_row_items : Int) ≤ 1000) (a3 : 0 ≤ a1_count.toInt) (a4 : a1_count.toInt ≤ 256) (hq : ∀ (ov_row_count : Int32) (ov_row_over : Bool) (ov_row_items : Nat → Int32), 0 ≤ ov_row_count.toInt → ov_row_count.toInt ≤ (nv_row_items : Int) → v_row_count.toInt ≤ ov_row_count.toInt → Q ov_row_count ov_row_over ov_row_items) : w_X4_writeClosing p2 v_row_count v_row_over v_row_items nv_row_items a1_count a1_sort a1_value a1_low a1_high Q := by
  have q_t : (bz true).toInt = 1 := rfl
  have q_f : (bz false).toInt = 0 := rfl
  have q_41 : (41 : Int32).toInt = 41 := rfl
  have q_43 : (43 : Int32).toInt = 43 := rfl
  have q_63 : (63 : Int32).toInt = 63 := rfl
  unfold w_X4_writeClosing
  refine ok_X10_sortOf (by omega) (by omega) (fun r2 f1 => ?_)
  have j_77 : ∀ (v_row_count_77 : Int32) (v_row_over_77 : Bool) (v_row_items_77 : Nat → Int32), 0 ≤ v_row_count_77.toInt → v_row_count_77.toInt ≤ (nv_row_items : Int) → v_row_count.toInt ≤ v_row_count_77.toInt → w_X4_writeClosing_77 Q v_row_count_77 v_row_over_77 v_row_items_77 := by
    intro v_row_count_77 v_row_over_77 v_row_items_77 f2 f3 f4
    unfold w_X4_writeClosing_77
    exact hq v_row_count_77 v_row_over_77 v_row_items_77 (by omega) (by omega) (by omega)
  refine ⟨fun c7 => ?_, fun c7 => ?_⟩
  · have f5 : r2.toInt ≠ 7 := i_ne (a := r2.toInt) (b := 7) rfl rfl c7
    refine ok_X10_sortOf (by omega) (by omega) (fun r60 f6 => ?_)
    refine ⟨fun c65 => ?_, fun c65 => ?_⟩
    · have f7 : r60.toInt < 8 := i_lt (a := r60.toInt) (b := 8) rfl rfl c65
      exact j_77 v_row_count v_row_over v_row_items (by omega) (by omega) (by omega)
    · have f8 : 8 ≤ r60.toInt := i_nlt (a := r60.toInt) (b := 8) rfl rfl c65
      refine ok_X7_add (by omega) (by omega) (by omega) (fun r74_0 r74_1 r74_2 f9 f10 f11 f12 => ?_)
      exact j_77 r74_0 r74_1 r74_2 (by omega) (by omega) (by omega)
  · have f13 : r2.toInt = 7 := i_eq (a := r2.toInt) (b := 7) rfl rfl c7
    refine ok_X10_lowOf (by omega) (by omega) (fun r13 f14 => ?_)
    refine ok_X10_highOf (by omega) (by omega) (fun r18 f15 => ?_)
    refine ok_X4_writeLoop (by omega) (by omega) (by omega) (fun r21_0 r21_1 r21_2 f16 f17 f18 => ?_)
    refine ok_X10_valueOf (by omega) (by omega) (fun r26 f19 => ?_)
    refine ⟨fun c29 => ?_, fun c29 => ?_⟩
    · have f20 : r26.toInt = 0 := i_eq (a := r26.toInt) (b := 0) rfl rfl c29
      exact j_77 r21_0 r21_1 r21_2 (by omega) (by omega) (by omega)
    · have f21 : r26.toInt ≠ 0 := i_ne (a := r26.toInt) (b := 0) rfl rfl c29
      refine ok_X10_valueOf (by omega) (by omega) (fun r38 f22 => ?_)
      have j_52 : ∀ (s0_52 : Int32), ((s0_52.toInt = 43) ∨ (s0_52.toInt = 63 ∧ r38.toInt = 1)) → w_X4_writeClosing_52 nv_row_items Q s0_52 r21_0 r21_1 r21_2 := by
        intro s0_52 f23
        unfold w_X4_writeClosing_52
        refine ok_X7_add (by omega) (by omega) (by omega) (fun r52_0 r52_1 r52_2 f24 f25 f26 f27 => ?_)
        exact j_77 r52_0 r52_1 r52_2 (by omega) (by omega) (by omega)
      refine ⟨fun c42 => ?_, fun c42 => ?_⟩
      · have f28 : r38.toInt ≠ 1 := i_ne (a := r38.toInt) (b := 1) rfl rfl c42
        exact j_52 43 (by omega)
      · have f29 : r38.toInt = 1 := i_eq (a := r38.toInt) (b := 1) rfl rfl c42
        exact j_52 63 (by omega)
set_option maxHeartbeats 4000000 in
theorem okB_X4_writeNode {p2 : Int32} {p3 : Int32} {v_row_count : Int32} {v_row_over : Bool} {v_row_there : Bool} {v_row_items : Nat → Int32} {nv_row_items : Nat} {v_behindOpening : Int32} {a1_there : Bool} {a1_count : Int32} {a1_captures : Int32} {a1_ranges : Int32} {a1_sort : Nat → Int32} {a1_holder : Nat → Int32} {a1_end : Nat → Int32} {a1_parts : Nat → Int32} {a1_value : Nat → Int32} {a1_low : Nat → Int32} {a1_high : Nat → Int32} {a1_rangeBegin : Nat → Int32} {a1_rangeEnd : Nat → Int32} {W_X4_writeNode : Int32 → Int32 → Int32 → Bool → Bool → (Nat → Int32) → Nat → Int32 → Bool → Int32 → Int32 → Int32 → (Nat → Int32) → (Nat → Int32) → (Nat → Int32) → (Nat → Int32) → (Nat → Int32) → (Nat → Int32) → (Nat → Int32) → (Nat → Int32) → (Nat → Int32) → (Int32 → Bool → (Nat → Int32) → Int32 → Prop) → Prop} {lv : Int} (hW_X4_writeNode : ∀ (p2 : Int32) (p3 : Int32) (v_row_count : Int32) (v_row_over : Bool) (v_row_there : Bool) (v_row_items : Nat → Int32) (nv_row_items : Nat) (v_behindOpening : Int32) (a1_there : Bool) (a1_count : Int32) (a1_captures : Int32) (a1_ranges : Int32) (a1_sort : Nat → Int32) (a1_holder : Nat → Int32) (a1_end : Nat → Int32) (a1_parts : Nat → Int32) (a1_value : Nat → Int32) (a1_low : Nat → Int32) (a1_high : Nat → Int32) (a1_rangeBegin : Nat → Int32) (a1_rangeEnd : Nat → Int32) (Q : Int32 → Bool → (Nat → Int32) → Int32 → Prop), 0 ≤ v_row_count.toInt → v_row_count.toInt ≤ (nv_row_items : Int) → (nv_row_items : Int) ≤ 1000 → 0 ≤ a1_count.toInt → a1_count.toInt ≤ 256 → 0 ≤ a1_ranges.toInt → a1_ranges.toInt ≤ 512 → 0 ≤ p3.toInt → p3.toInt ≤ 61 → (lv : Int) + 1 ≤ p3.toInt → rp (fun k v => k < v ∧ v ≤ 256) a1_end 0 a1_count.toInt → rp (fun k v => v < k ∧ -1 ≤ v) a1_holder 0 a1_count.toInt → (∀ (ov_row_count : Int32) (ov_row_over : Bool) (ov_row_items : Nat → Int32) (ov_behindOpening : Int32), 0 ≤ ov_row_count.toInt → ov_row_count.toInt ≤ (nv_row_items : Int) → Q ov_row_count ov_row_over ov_row_items ov_behindOpening) → W_X4_writeNode p2 p3 v_row_count v_row_over v_row_there v_row_items nv_row_items v_behindOpening a1_there a1_count a1_captures a1_ranges a1_sort a1_holder a1_end a1_parts a1_value a1_low a1_high a1_rangeBegin a1_rangeEnd Q) {Q : Int32 → Bool → (Nat → Int32) → Int32 → Prop} (a0 : 0 ≤ v_row_count.toInt) (a1 : v_row_count.toInt ≤ (nv_row_items : Int)) (a2 : (nv_row_items : Int) ≤ 1000) (a3 : 0 ≤ a1_count.toInt) (a4 : a1_count.toInt ≤ 256) (a5 : 0 ≤ a1_ranges.toInt) (a6 : a1_ranges.toInt ≤ 512) (a7 : 0 ≤ p3.toInt) (a8 : p3.toInt ≤ 61) (a9 : (lv : Int) ≤ p3.toInt) (b0 : rp (fun k v => k < v ∧ v ≤ 256) a1_end 0 a1_count.toInt) (b1 : rp (fun k v => v < k ∧ -1 ≤ v) a1_holder 0 a1_count.toInt) (hq : ∀ (ov_row_count : Int32) (ov_row_over : Bool) (ov_row_items : Nat → Int32) (ov_behindOpening : Int32), ((ov_row_count.toInt = v_row_count.toInt ∧ (bz ov_row_over).toInt = (bz v_row_over).toInt ∧ ov_behindOpening.toInt = v_behindOpening.toInt ∧ 61 ≤ p3.toInt) ∨ (p3.toInt ≤ 60 ∧ 0 ≤ ov_row_count.toInt ∧ ov_row_count.toInt ≤ (nv_row_items : Int))) → Q ov_row_count ov_row_over ov_row_items ov_behindOpening) : wB_X4_writeNode W_X4_writeNode p2 p3 v_row_count v_row_over v_row_there v_row_items nv_row_items v_behindOpening a1_there a1_count a1_captures a1_ranges a1_sort a1_holder a1_end a1_parts a1_value a1_low a1_high a1_rangeBegin a1_rangeEnd Q := by
  have q_t : (bz true).toInt = 1 := rfl
  have q_f : (bz false).toInt = 0 := rfl
  have q_40 : (40 : Int32).toInt = 40 := rfl
  have q_41 : (41 : Int32).toInt = 41 := rfl
  have q_58 : (58 : Int32).toInt = 58 := rfl
  have q_124 : (124 : Int32).toInt = 124 := rfl
  unfold wB_X4_writeNode
  refine ⟨fun c3 => ?_, fun c3 => ?_⟩
  · have f1 : p3.toInt ≤ 60 := i_le (a := p3.toInt) (b := 60) rfl rfl c3
    refine ok_X10_sortOf (by omega) (by omega) (fun r9 f2 => ?_)
    refine ok_X10_holderOf (by omega) (by omega) (rp_mono b1 (by omega) (by omega)) (fun r15 f3 => ?_)
    refine ok_X10_sortOf (by omega) (by omega) (fun r18 f4 => ?_)
    refine ok_X10_holderOf (by omega) (by omega) (rp_mono b1 (by omega) (by omega)) (fun r23 f5 => ?_)
    refine ok_X4_isGrouped  (fun r26 f6 f7 => ?_)
    have j_54 : ∀ (v_row_count_54 : Int32) (v_row_over_54 : Bool) (v_row_items_54 : Nat → Int32), 0 ≤ v_row_count_54.toInt → v_row_count_54.toInt ≤ (nv_row_items : Int) → v_row_count.toInt ≤ v_row_count_54.toInt → ((v_row_count_54.toInt = v_row_count.toInt ∧ r26.toInt = 0) ∨ (0 ≤ v_row_count_54.toInt ∧ v_row_count_54.toInt ≤ (nv_row_items : Int))) → w_X4_writeNode_54 W_X4_writeNode p2 p3 v_row_there nv_row_items a1_there a1_count a1_captures a1_ranges a1_sort a1_holder a1_end a1_parts a1_value a1_low a1_high a1_rangeBegin a1_rangeEnd Q r26 v_row_count_54 v_row_over_54 v_row_items_54 v_behindOpening := by
      intro v_row_count_54 v_row_over_54 v_row_items_54 f8 f9 f10 f11
      unfold w_X4_writeNode_54
      refine ok_X10_sortOf (by omega) (by omega) (fun r56 f12 => ?_)
      have j_147 : ∀ (v_row_count_147 : Int32) (v_row_over_147 : Bool) (v_row_items_147 : Nat → Int32) (v_behindOpening_147 : Int32), 0 ≤ v_row_count_147.toInt → v_row_count_147.toInt ≤ (nv_row_items : Int) → ((v_behindOpening_147.toInt = v_behindOpening.toInt ∧ r56.toInt ≤ 4 ∧ v_row_count_54.toInt ≤ v_row_count_147.toInt) ∨ (5 ≤ r56.toInt)) → w_X4_writeNode_147 W_X4_writeNode nv_row_items Q r26 v_row_count_147 v_row_over_147 v_row_items_147 v_behindOpening_147 := by
        intro v_row_count_147 v_row_over_147 v_row_items_147 v_behindOpening_147 f13 f14 f15
        unfold w_X4_writeNode_147
        have j_161 : ∀ (v_row_count_161 : Int32) (v_row_over_161 : Bool) (v_row_items_161 : Nat → Int32), 0 ≤ v_row_count_161.toInt → v_row_count_161.toInt ≤ (nv_row_items : Int) → ((v_row_count_161.toInt = v_row_count_147.toInt ∧ r26.toInt = 0) ∨ (0 ≤ v_row_count_161.toInt ∧ v_row_count_161.toInt ≤ (nv_row_items : Int) ∧ v_row_count_147.toInt ≤ v_row_count_161.toInt)) → w_X4_writeNode_161 W_X4_writeNode Q v_row_count_161 v_row_over_161 v_row_items_161 v_behindOpening_147 := by
          intro v_row_count_161 v_row_over_161 v_row_items_161 f16 f17 f18
          unfold w_X4_writeNode_161
          exact hq v_row_count_161 v_row_over_161 v_row_items_161 v_behindOpening_147 (by omega)
        refine ⟨fun c149 => ?_, fun c149 => ?_⟩
        · have f19 : r26.toInt = 0 := i_eq (a := r26.toInt) (b := 0) rfl rfl c149
          exact j_161 v_row_count_147 v_row_over_147 v_row_items_147 (by omega) (by omega) (by omega)
        · have f20 : r26.toInt ≠ 0 := i_ne (a := r26.toInt) (b := 0) rfl rfl c149
          refine ok_X7_add (by omega) (by omega) (by omega) (fun r158_0 r158_1 r158_2 f21 f22 f23 f24 => ?_)
          exact j_161 r158_0 r158_1 r158_2 (by omega) (by omega) (by omega)
      refine ⟨fun c60 => ?_, fun c60 => ?_⟩
      · have f25 : 4 < r56.toInt := i_lt (a := 4) (b := r56.toInt) rfl rfl c60
        refine ok_X4_writeOpening (by omega) (by omega) (by omega) (by omega) (by omega) (fun r75_0 r75_1 r75_2 r75_3 f26 f27 f28 => ?_)
        refine ok_X10_firstOf (by omega) (by omega) (rp_mono b0 (by omega) (by omega)) (fun r80 f29 f30 => ?_)
        have j_85 : ∀ n_85 : Nat, ∀ (l5_85 : Int32) (v_row_count_85 : Int32) (v_row_over_85 : Bool) (v_row_items_85 : Nat → Int32) (v_behindOpening_85 : Int32), 0 ≤ l5_85.toInt + 1 → l5_85.toInt ≤ 255 → 0 ≤ v_row_count_85.toInt → v_row_count_85.toInt ≤ (nv_row_items : Int) → (1 ≤ n_85 ∧ (l5_85.toInt + 1 ≤ 0 ∨ (-1) * l5_85.toInt + 2147483648 ≤ (n_85 : Int))) → w_X4_writeNode_85 W_X4_writeNode p2 p3 v_row_there nv_row_items a1_there a1_count a1_captures a1_ranges a1_sort a1_holder a1_end a1_parts a1_value a1_low a1_high a1_rangeBegin a1_rangeEnd Q r26 n_85 l5_85 v_row_count_85 v_row_over_85 v_row_items_85 v_behindOpening_85 := by
          intro n_85
          induction n_85 with
          | zero =>
            intro l5_85 v_row_count_85 v_row_over_85 v_row_items_85 v_behindOpening_85 f31 f32 f33 f34 hm_85
            exfalso; omega
          | succ n_85 ih_85 =>
            intro l5_85 v_row_count_85 v_row_over_85 v_row_items_85 v_behindOpening_85 f31 f32 f33 f34 hm_85
            unfold w_X4_writeNode_85
            unfold w_X4_writeNode_85B
            refine ⟨fun c88 => ?_, fun c88 => ?_⟩
            · have f35 : l5_85.toInt = (-1) := i_eq (a := l5_85.toInt) (b := (-1)) rfl rfl c88
              refine ok_X4_writeClosing (by omega) (by omega) (by omega) (by omega) (by omega) (fun r144_0 r144_1 r144_2 f36 f37 f38 => ?_)
              exact j_147 r144_0 r144_1 r144_2 v_behindOpening_85 (by omega) (by omega) (by omega)
            · have f39 : l5_85.toInt ≠ (-1) := i_ne (a := l5_85.toInt) (b := (-1)) rfl rfl c88
              intro x97 ex97
              have f40 : x97.toInt = p3.toInt + 1 := i_add (a := p3.toInt) (b := 1) ex97 rfl rfl (by omega) (by omega)
              refine hW_X4_writeNode l5_85 x97 v_row_count_85 v_row_over_85 v_row_there v_row_items_85 nv_row_items v_behindOpening_85 a1_there a1_count a1_captures a1_ranges a1_sort a1_holder a1_end a1_parts a1_value a1_low a1_high a1_rangeBegin a1_rangeEnd _ (by omega) (by omega) (by omega) (by omega) (by omega) (by omega) (by omega) (by omega) (by omega) (by omega) (rp_mono b0 (by omega) (by omega)) (rp_mono b1 (by omega) (by omega)) (fun r98_0 r98_1 r98_2 r98_3 f41 f42 => ?_)
              refine ok_X10_sortOf (by omega) (by omega) (fun r103 f43 => ?_)
              have j_130 : ∀ (v_row_count_130 : Int32) (v_row_over_130 : Bool) (v_row_items_130 : Nat → Int32), 0 ≤ v_row_count_130.toInt → v_row_count_130.toInt ≤ (nv_row_items : Int) → ((v_row_count_130.toInt = r98_0.toInt) ∨ (v_row_count_130.toInt = r98_0.toInt ∧ r103.toInt = 6) ∨ (r103.toInt = 6 ∧ 0 ≤ v_row_count_130.toInt ∧ v_row_count_130.toInt ≤ (nv_row_items : Int) ∧ r98_0.toInt ≤ v_row_count_130.toInt)) → w_X4_writeNode_130 W_X4_writeNode a1_count a1_holder a1_end Q (w_X4_writeNode_85 W_X4_writeNode p2 p3 v_row_there nv_row_items a1_there a1_count a1_captures a1_ranges a1_sort a1_holder a1_end a1_parts a1_value a1_low a1_high a1_rangeBegin a1_rangeEnd Q r26 n_85) l5_85 v_row_count_130 v_row_over_130 v_row_items_130 r98_3 := by
                intro v_row_count_130 v_row_over_130 v_row_items_130 f44 f45 f46
                unfold w_X4_writeNode_130
                refine ok_X10_nextOf (by omega) (by omega) (rp_mono b0 (by omega) (by omega)) (rp_mono b1 (by omega) (by omega)) (fun r133 f47 f48 f49 => ?_)
                exact ih_85 r133 v_row_count_130 v_row_over_130 v_row_items_130 r98_3 (by omega) (by omega) (by omega) (by omega) (by have h8_0 := i_rng l5_85; have h8_1 := i_rng r133; omega)
              refine ⟨fun c108 => ?_, fun c108 => ?_⟩
              · have f50 : r103.toInt ≠ 6 := i_ne (a := r103.toInt) (b := 6) rfl rfl c108
                exact j_130 r98_0 r98_1 r98_2 (by omega) (by omega) (by omega)
              · have f51 : r103.toInt = 6 := i_eq (a := r103.toInt) (b := 6) rfl rfl c108
                refine ok_X10_nextOf (by omega) (by omega) (rp_mono b0 (by omega) (by omega)) (rp_mono b1 (by omega) (by omega)) (fun r114 f52 f53 f54 => ?_)
                refine ⟨fun c118 => ?_, fun c118 => ?_⟩
                · have f55 : r114.toInt = (-1) := i_eq (a := r114.toInt) (b := (-1)) rfl rfl c118
                  exact j_130 r98_0 r98_1 r98_2 (by omega) (by omega) (by omega)
                · have f56 : r114.toInt ≠ (-1) := i_ne (a := r114.toInt) (b := (-1)) rfl rfl c118
                  refine ok_X7_add (by omega) (by omega) (by omega) (fun r127_0 r127_1 r127_2 f57 f58 f59 f60 => ?_)
                  exact j_130 r127_0 r127_1 r127_2 (by omega) (by omega) (by omega)
        exact ⟨((-1) * r80.toInt + 2147483648).toNat + 1, j_85   (((-1) * r80.toInt + 2147483648).toNat + 1) r80 r75_0 r75_1 r75_2 r75_3 (by omega) (by omega) (by omega) (by omega) (by omega)⟩
      · have f61 : r56.toInt ≤ 4 := i_nlt (a := 4) (b := r56.toInt) rfl rfl c60
        refine ok_X4_writeLeaf (by omega) (by omega) (by omega) (by omega) (by omega) (by omega) (by omega) (fun r66_0 r66_1 r66_2 f62 f63 f64 => ?_)
        exact j_147 r66_0 r66_1 r66_2 v_behindOpening (by omega) (by omega) (by omega)
    refine ⟨fun c33 => ?_, fun c33 => ?_⟩
    · have f65 : r26.toInt = 0 := i_eq (a := r26.toInt) (b := 0) rfl rfl c33
      exact j_54 v_row_count v_row_over v_row_items (by omega) (by omega) (by omega) (by omega)
    · have f66 : r26.toInt ≠ 0 := i_ne (a := r26.toInt) (b := 0) rfl rfl c33
      refine ok_X7_add (by omega) (by omega) (by omega) (fun r42_0 r42_1 r42_2 f67 f68 f69 f70 => ?_)
      refine ok_X7_add (by omega) (by omega) (by omega) (fun r51_0 r51_1 r51_2 f71 f72 f73 f74 => ?_)
      exact j_54 r51_0 r51_1 r51_2 (by omega) (by omega) (by omega) (by omega)
  · have f75 : 60 < p3.toInt := i_nle (a := p3.toInt) (b := 60) rfl rfl c3
    exact hq v_row_count v_row_over v_row_items v_behindOpening (by omega)
set_option maxHeartbeats 4000000 in
theorem okN_X4_writeNode (n9 : Nat) : ∀ (p2 : Int32) (p3 : Int32) (v_row_count : Int32) (v_row_over : Bool) (v_row_there : Bool) (v_row_items : Nat → Int32) (nv_row_items : Nat) (v_behindOpening : Int32) (a1_there : Bool) (a1_count : Int32) (a1_captures : Int32) (a1_ranges : Int32) (a1_sort : Nat → Int32) (a1_holder : Nat → Int32) (a1_end : Nat → Int32) (a1_parts : Nat → Int32) (a1_value : Nat → Int32) (a1_low : Nat → Int32) (a1_high : Nat → Int32) (a1_rangeBegin : Nat → Int32) (a1_rangeEnd : Nat → Int32) (Q : Int32 → Bool → (Nat → Int32) → Int32 → Prop), 61 - p3.toInt < (n9 : Int) → 0 ≤ v_row_count.toInt → v_row_count.toInt ≤ (nv_row_items : Int) → (nv_row_items : Int) ≤ 1000 → 0 ≤ a1_count.toInt → a1_count.toInt ≤ 256 → 0 ≤ a1_ranges.toInt → a1_ranges.toInt ≤ 512 → 0 ≤ p3.toInt → p3.toInt ≤ 61 → rp (fun k v => k < v ∧ v ≤ 256) a1_end 0 a1_count.toInt → rp (fun k v => v < k ∧ -1 ≤ v) a1_holder 0 a1_count.toInt → (∀ (ov_row_count : Int32) (ov_row_over : Bool) (ov_row_items : Nat → Int32) (ov_behindOpening : Int32), 0 ≤ ov_row_count.toInt → ov_row_count.toInt ≤ (nv_row_items : Int) → Q ov_row_count ov_row_over ov_row_items ov_behindOpening) → w_X4_writeNode n9 p2 p3 v_row_count v_row_over v_row_there v_row_items nv_row_items v_behindOpening a1_there a1_count a1_captures a1_ranges a1_sort a1_holder a1_end a1_parts a1_value a1_low a1_high a1_rangeBegin a1_rangeEnd Q := by
  induction n9 with
  | zero => intro p2 p3 v_row_count v_row_over v_row_there v_row_items nv_row_items v_behindOpening a1_there a1_count a1_captures a1_ranges a1_sort a1_holder a1_end a1_parts a1_value a1_low a1_high a1_rangeBegin a1_rangeEnd Q hn a0 a1 a2 a3 a4 a5 a6 a7 a8 b0 b1 hq; exfalso; omega
  | succ n9 ih =>
    intro p2 p3 v_row_count v_row_over v_row_there v_row_items nv_row_items v_behindOpening a1_there a1_count a1_captures a1_ranges a1_sort a1_holder a1_end a1_parts a1_value a1_low a1_high a1_rangeBegin a1_rangeEnd Q hn a0 a1 a2 a3 a4 a5 a6 a7 a8 b0 b1 hq
    unfold w_X4_writeNode
    exact okB_X4_writeNode (lv := p3.toInt) (fun p2 p3 v_row_count v_row_over v_row_there v_row_items nv_row_items v_behindOpening a1_there a1_count a1_captures a1_ranges a1_sort a1_holder a1_end a1_parts a1_value a1_low a1_high a1_rangeBegin a1_rangeEnd Q a0 a1 a2 a3 a4 a5 a6 a7 a8 a9 b0 b1 hq => ih p2 p3 v_row_count v_row_over v_row_there v_row_items nv_row_items v_behindOpening a1_there a1_count a1_captures a1_ranges a1_sort a1_holder a1_end a1_parts a1_value a1_low a1_high a1_rangeBegin a1_rangeEnd Q (by omega) a0 a1 a2 a3 a4 a5 a6 a7 a8 b0 b1 hq) (by omega) (by omega) (by omega) (by omega) (by omega) (by omega) (by omega) (by omega) (by omega) (by omega) b0 b1 (fun ov_row_count ov_row_over ov_row_items ov_behindOpening f0 => hq ov_row_count ov_row_over ov_row_items ov_behindOpening (by omega) (by omega))
theorem ok_X4_writeNode {p2 : Int32} {p3 : Int32} {v_row_count : Int32} {v_row_over : Bool} {v_row_there : Bool} {v_row_items : Nat → Int32} {nv_row_items : Nat} {v_behindOpening : Int32} {a1_there : Bool} {a1_count : Int32} {a1_captures : Int32} {a1_ranges : Int32} {a1_sort : Nat → Int32} {a1_holder : Nat → Int32} {a1_end : Nat → Int32} {a1_parts : Nat → Int32} {a1_value : Nat → Int32} {a1_low : Nat → Int32} {a1_high : Nat → Int32} {a1_rangeBegin : Nat → Int32} {a1_rangeEnd : Nat → Int32} {Q : Int32 → Bool → (Nat → Int32) → Int32 → Prop} (a0 : 0 ≤ v_row_count.toInt) (a1 : v_row_count.toInt ≤ (nv_row_items : Int)) (a2 : (nv_row_items : Int) ≤ 1000) (a3 : 0 ≤ a1_count.toInt) (a4 : a1_count.toInt ≤ 256) (a5 : 0 ≤ a1_ranges.toInt) (a6 : a1_ranges.toInt ≤ 512) (a7 : 0 ≤ p3.toInt) (a8 : p3.toInt ≤ 61) (b0 : rp (fun k v => k < v ∧ v ≤ 256) a1_end 0 a1_count.toInt) (b1 : rp (fun k v => v < k ∧ -1 ≤ v) a1_holder 0 a1_count.toInt) (hq : ∀ (ov_row_count : Int32) (ov_row_over : Bool) (ov_row_items : Nat → Int32) (ov_behindOpening : Int32), 0 ≤ ov_row_count.toInt → ov_row_count.toInt ≤ (nv_row_items : Int) → Q ov_row_count ov_row_over ov_row_items ov_behindOpening) : w_X4_writeNode 64 p2 p3 v_row_count v_row_over v_row_there v_row_items nv_row_items v_behindOpening a1_there a1_count a1_captures a1_ranges a1_sort a1_holder a1_end a1_parts a1_value a1_low a1_high a1_rangeBegin a1_rangeEnd Q :=
  okN_X4_writeNode 64 p2 p3 v_row_count v_row_over v_row_there v_row_items nv_row_items v_behindOpening a1_there a1_count a1_captures a1_ranges a1_sort a1_holder a1_end a1_parts a1_value a1_low a1_high a1_rangeBegin a1_rangeEnd Q (by omega) a0 a1 a2 a3 a4 a5 a6 a7 a8 b0 b1 hq
set_option maxHeartbeats 4000000 in
theorem ok_X4_write {a2_there : Bool} {a2_items : Nat → Int32} {na2_items : Nat} {a1_there : Bool} {a1_count : Int32} {a1_captures : Int32} {a1_ranges : Int32} {a1_sort : Nat → Int32} {a1_holder : Nat → Int32} {a1_end : Nat → Int32} {a1_parts : Nat → Int32} {a1_value : Nat → Int32} {a1_low : Nat → Int32} {a1_high : Nat → Int32} {a1_rangeBegin : Nat → Int32} {a1_rangeEnd : Nat → Int32} {Q : Int32 → Bool → (Nat → Int32) → Int32 → Prop} (a0 : (na2_items : Int) ≤ 1000) (a1 : 0 ≤ a1_count.toInt) (a2 : a1_count.toInt ≤ 256) (a3 : 0 ≤ a1_ranges.toInt) (a4 : a1_ranges.toInt ≤ 512) (b0 : rp (fun k v => k < v ∧ v ≤ 256) a1_end 0 a1_count.toInt) (b1 : rp (fun k v => v < k ∧ -1 ≤ v) a1_holder 0 a1_count.toInt) (hq : ∀ (oa2_count : Int32) (oa2_over : Bool) (oa2_items : Nat → Int32) (ov_behindOpening : Int32), 0 ≤ oa2_count.toInt → oa2_count.toInt ≤ (na2_items : Int) → Q oa2_count oa2_over oa2_items ov_behindOpening) : w_X4_write a2_there a2_items na2_items a1_there a1_count a1_captures a1_ranges a1_sort a1_holder a1_end a1_parts a1_value a1_low a1_high a1_rangeBegin a1_rangeEnd Q := by
  have q_t : (bz true).toInt = 1 := rfl
  have q_f : (bz false).toInt = 0 := rfl
  have q_m1 : ((-1) : Int32).toInt = (-1) := rfl
  have q_0 : (0 : Int32).toInt = 0 := rfl
  unfold w_X4_write
  refine ok_X7_empty  (fun r9_0 r9_1 f1 f2 => ?_)
  refine ok_X4_writeNode (by omega) (by omega) (by omega) (by omega) (by omega) (by omega) (by omega) (by omega) (by omega) (rp_mono b0 (by omega) (by omega)) (rp_mono b1 (by omega) (by omega)) (fun r21_0 r21_1 r21_2 r21_3 f3 f4 => ?_)
  exact hq r21_0 r21_1 r21_2 r21_3 (by omega) (by omega)
set_option maxHeartbeats 4000000 in
theorem ok_X3_setCell {p1 : Int32} {p2 : Int32} {v_cells : Nat → Int32} {Q : (Nat → Int32) → Prop} (hq : ∀ (ov_cells : Nat → Int32), Q ov_cells) : w_X3_setCell p1 p2 v_cells Q := by
  have q_t : (bz true).toInt = 1 := rfl
  have q_f : (bz false).toInt = 0 := rfl
  unfold w_X3_setCell
  have j_17 : ∀ (v_cells_17 : Nat → Int32), ((p1.toInt + 1 ≤ 0) ∨ (0 ≤ p1.toInt ∧ 20 ≤ p1.toInt) ∨ (0 ≤ p1.toInt ∧ p1.toInt ≤ 19)) → w_X3_setCell_17 Q v_cells_17 := by
    intro v_cells_17 f1
    unfold w_X3_setCell_17
    exact hq v_cells_17 
  refine ⟨fun c1 => ?_, fun c1 => ?_⟩
  · have f2 : p1.toInt < 0 := i_lt (a := p1.toInt) (b := 0) rfl rfl c1
    exact j_17 v_cells (by omega)
  · have f3 : 0 ≤ p1.toInt := i_nlt (a := p1.toInt) (b := 0) rfl rfl c1
    refine ⟨fun c7 => ?_, fun c7 => ?_⟩
    · have f4 : 20 ≤ p1.toInt := i_le (a := 20) (b := p1.toInt) rfl rfl c7
      exact j_17 v_cells (by omega)
    · have f5 : p1.toInt < 20 := i_nle (a := 20) (b := p1.toInt) rfl rfl c7
      refine ⟨i_in (by omega) (by omega), ?_⟩
      intro g16 eg16
      exact j_17 g16 (by omega)
set_option maxHeartbeats 4000000 in
theorem ok_X3_cellAt {p1 : Int32} {v_cells : Nat → Int32} {Q : Int32 → Prop} (hq : ∀ (r : Int32), ((0 ≤ p1.toInt ∧ p1.toInt ≤ 19) ∨ (r.toInt + 1 = 0)) → Q r) : w_X3_cellAt p1 v_cells Q := by
  have q_t : (bz true).toInt = 1 := rfl
  have q_f : (bz false).toInt = 0 := rfl
  have q_m1 : ((-1) : Int32).toInt = (-1) := rfl
  unfold w_X3_cellAt
  have j_20 : ∀ (s0_20 : Int32), ((0 ≤ p1.toInt ∧ p1.toInt ≤ 19) ∨ (s0_20.toInt + 1 = 0)) → w_X3_cellAt_20 Q s0_20 := by
    intro s0_20 f1
    unfold w_X3_cellAt_20
    exact hq s0_20 (by omega)
  have j_19 : ((p1.toInt + 1 ≤ 0) ∨ (0 ≤ p1.toInt ∧ 20 ≤ p1.toInt)) → w_X3_cellAt_19 Q := by
    intro f2
    unfold w_X3_cellAt_19
    exact j_20 (-1) (by omega)
  refine ⟨fun c1 => ?_, fun c1 => ?_⟩
  · have f3 : p1.toInt < 0 := i_lt (a := p1.toInt) (b := 0) rfl rfl c1
    exact j_19  (by omega)
  · have f4 : 0 ≤ p1.toInt := i_nlt (a := p1.toInt) (b := 0) rfl rfl c1
    refine ⟨fun c7 => ?_, fun c7 => ?_⟩
    · have f5 : 20 ≤ p1.toInt := i_le (a := 20) (b := p1.toInt) rfl rfl c7
      exact j_19  (by omega)
    · have f6 : p1.toInt < 20 := i_nle (a := 20) (b := p1.toInt) rfl rfl c7
      refine ⟨i_in (by omega) (by omega), ?_⟩
      intro x15 ex15
      exact j_20 x15 (by omega)
set_option maxHeartbeats 4000000 in
theorem ok_X11_isWordSign {p0 : Int32} {Q : Int32 → Prop} (hq : ∀ (r : Int32), ((r.toInt = 0) ∨ (r.toInt = 1)) → Q r) : w_X11_isWordSign p0 Q := by
  have q_t : (bz true).toInt = 1 := rfl
  have q_f : (bz false).toInt = 0 := rfl
  have q_0 : (0 : Int32).toInt = 0 := rfl
  have q_1 : (1 : Int32).toInt = 1 := rfl
  unfold w_X11_isWordSign
  intro x3 ex3
  have j_40 : ∀ (s0_40 : Int32), ((s0_40.toInt = 0) ∨ (s0_40.toInt = 1)) → w_X11_isWordSign_40 Q s0_40 := by
    intro s0_40 f1
    unfold w_X11_isWordSign_40
    refine ⟨i_01 (by omega) (by omega), ?_⟩
    exact hq s0_40 (by omega)
  have j_35 : w_X11_isWordSign_35 Q := by
    unfold w_X11_isWordSign_35
    exact j_40 1 (by omega)
  have j_17 : w_X11_isWordSign_17 p0 Q := by
    unfold w_X11_isWordSign_17
    have j_29 : ((p0.toInt ≤ 47) ∨ (48 ≤ p0.toInt ∧ 58 ≤ p0.toInt)) → w_X11_isWordSign_29 p0 Q := by
      intro f2
      unfold w_X11_isWordSign_29
      refine ⟨fun c32 => ?_, fun c32 => ?_⟩
      · have f3 : p0.toInt ≠ 95 := i_ne (a := p0.toInt) (b := 95) rfl rfl c32
        exact j_40 0 (by omega)
      · have f4 : p0.toInt = 95 := i_eq (a := p0.toInt) (b := 95) rfl rfl c32
        exact j_35  
    refine ⟨fun c20 => ?_, fun c20 => ?_⟩
    · have f5 : p0.toInt < 48 := i_lt (a := p0.toInt) (b := 48) rfl rfl c20
      exact j_29  (by omega)
    · have f6 : 48 ≤ p0.toInt := i_nlt (a := p0.toInt) (b := 48) rfl rfl c20
      refine ⟨fun c26 => ?_, fun c26 => ?_⟩
      · have f7 : p0.toInt ≤ 57 := i_le (a := p0.toInt) (b := 57) rfl rfl c26
        exact j_35  
      · have f8 : 57 < p0.toInt := i_nle (a := p0.toInt) (b := 57) rfl rfl c26
        exact j_29  (by omega)
  refine ⟨fun c8 => ?_, fun c8 => ?_⟩
  · have f9 : x3.toInt < 97 := i_lt (a := x3.toInt) (b := 97) rfl rfl c8
    exact j_17  
  · have f10 : 97 ≤ x3.toInt := i_nlt (a := x3.toInt) (b := 97) rfl rfl c8
    refine ⟨fun c14 => ?_, fun c14 => ?_⟩
    · have f11 : x3.toInt ≤ 122 := i_le (a := x3.toInt) (b := 122) rfl rfl c14
      exact j_35  
    · have f12 : 122 < x3.toInt := i_nle (a := x3.toInt) (b := 122) rfl rfl c14
      exact j_17  
set_option maxHeartbeats 4000000 in
theorem ok_X11_edgeHolds {p0 : Int32} {p2 : Int32} {a1_count : Int32} {a1_items : Nat → Int32} {na1_items : Nat} {Q : Int32 → Prop} (a0 : 0 ≤ a1_count.toInt) (a1 : a1_count.toInt ≤ (na1_items : Int)) (a2 : (na1_items : Int) ≤ 1000) (hq : ∀ (r : Int32), 0 ≤ r.toInt → r.toInt ≤ 1 → Q r) : w_X11_edgeHolds p0 p2 a1_count a1_items na1_items Q := by
  have q_t : (bz true).toInt = 1 := rfl
  have q_f : (bz false).toInt = 0 := rfl
  have q_0 : (0 : Int32).toInt = 0 := rfl
  have q_1 : (1 : Int32).toInt = 1 := rfl
  unfold w_X11_edgeHolds
  refine ⟨fun c1 => ?_, fun c1 => ?_⟩
  · have f1 : p0.toInt ≠ 0 := i_ne (a := p0.toInt) (b := 0) rfl rfl c1
    refine ⟨fun c16 => ?_, fun c16 => ?_⟩
    · have f2 : p0.toInt ≠ 1 := i_ne (a := p0.toInt) (b := 1) rfl rfl c16
      intro x36 ex36
      refine ok_X7_at (by omega) (by omega) (by omega) (fun r37 f3 => ?_)
      refine ok_X11_isWordSign  (fun r40 f4 => ?_)
      refine ok_X7_at (by omega) (by omega) (by omega) (fun r45 f5 => ?_)
      refine ok_X11_isWordSign  (fun r48 f6 => ?_)
      have j_59 : ∀ (s0_59 : Int32), ((s0_59.toInt = 0 ∧ r40.toInt = r48.toInt) ∨ (s0_59.toInt = 1)) → w_X11_edgeHolds_59 p0 Q s0_59 := by
        intro s0_59 f7
        unfold w_X11_edgeHolds_59
        have j_71 : ∀ (s0_71 : Int32), ((s0_71.toInt = 0) ∨ (s0_71.toInt = 1 ∧ p0.toInt = 2)) → w_X11_edgeHolds_71 Q s0_71 s0_59 := by
          intro s0_71 f8
          unfold w_X11_edgeHolds_71
          have j_79 : ∀ (s0_79 : Int32), ((s0_79.toInt = 0) ∨ (s0_79.toInt = 1 ∧ s0_59.toInt = s0_71.toInt)) → w_X11_edgeHolds_79 Q s0_79 := by
            intro s0_79 f9
            unfold w_X11_edgeHolds_79
            refine ⟨i_01 (by omega) (by omega), ?_⟩
            exact hq s0_79 (by omega) (by omega)
          refine ⟨fun c71 => ?_, fun c71 => ?_⟩
          · have f10 : s0_59.toInt ≠ s0_71.toInt := i_ne (a := s0_59.toInt) (b := s0_71.toInt) rfl rfl c71
            exact j_79 0 (by omega)
          · have f11 : s0_59.toInt = s0_71.toInt := i_eq (a := s0_59.toInt) (b := s0_71.toInt) rfl rfl c71
            exact j_79 1 (by omega)
        refine ⟨fun c63 => ?_, fun c63 => ?_⟩
        · have f12 : p0.toInt ≠ 2 := i_ne (a := p0.toInt) (b := 2) rfl rfl c63
          exact j_71 0 (by omega)
        · have f13 : p0.toInt = 2 := i_eq (a := p0.toInt) (b := 2) rfl rfl c63
          exact j_71 1 (by omega)
      refine ⟨fun c51 => ?_, fun c51 => ?_⟩
      · have f14 : r40.toInt = r48.toInt := i_eq (a := r40.toInt) (b := r48.toInt) rfl rfl c51
        exact j_59 0 (by omega)
      · have f15 : r40.toInt ≠ r48.toInt := i_ne (a := r40.toInt) (b := r48.toInt) rfl rfl c51
        exact j_59 1 (by omega)
    · have f16 : p0.toInt = 1 := i_eq (a := p0.toInt) (b := 1) rfl rfl c16
      have j_32 : ∀ (s0_32 : Int32), ((s0_32.toInt = 0) ∨ (s0_32.toInt = 1 ∧ p2.toInt = a1_count.toInt)) → w_X11_edgeHolds_32 Q s0_32 := by
        intro s0_32 f17
        unfold w_X11_edgeHolds_32
        refine ⟨i_01 (by omega) (by omega), ?_⟩
        exact hq s0_32 (by omega) (by omega)
      refine ⟨fun c24 => ?_, fun c24 => ?_⟩
      · have f18 : p2.toInt ≠ a1_count.toInt := i_ne (a := p2.toInt) (b := a1_count.toInt) rfl rfl c24
        exact j_32 0 (by omega)
      · have f19 : p2.toInt = a1_count.toInt := i_eq (a := p2.toInt) (b := a1_count.toInt) rfl rfl c24
        exact j_32 1 (by omega)
  · have f20 : p0.toInt = 0 := i_eq (a := p0.toInt) (b := 0) rfl rfl c1
    have j_13 : ∀ (s0_13 : Int32), ((s0_13.toInt = 0) ∨ (s0_13.toInt = 1 ∧ p2.toInt = 0)) → w_X11_edgeHolds_13 Q s0_13 := by
      intro s0_13 f21
      unfold w_X11_edgeHolds_13
      refine ⟨i_01 (by omega) (by omega), ?_⟩
      exact hq s0_13 (by omega) (by omega)
    refine ⟨fun c5 => ?_, fun c5 => ?_⟩
    · have f22 : p2.toInt ≠ 0 := i_ne (a := p2.toInt) (b := 0) rfl rfl c5
      exact j_13 0 (by omega)
    · have f23 : p2.toInt = 0 := i_eq (a := p2.toInt) (b := 0) rfl rfl c5
      exact j_13 1 (by omega)
set_option maxHeartbeats 4000000 in
theorem ok_X3_markEdges {p1 : Int32} {v_edges : Nat → Bool} {v_subject_count : Int32} {v_subject_items : Nat → Int32} {nv_subject_items : Nat} {Q : (Nat → Bool) → Prop} (a0 : 0 ≤ v_subject_count.toInt) (a1 : v_subject_count.toInt ≤ (nv_subject_items : Int)) (a2 : (nv_subject_items : Int) ≤ 1000) (hq : ∀ (ov_edges : Nat → Bool), Q ov_edges) : w_X3_markEdges p1 v_edges v_subject_count v_subject_items nv_subject_items Q := by
  have q_t : (bz true).toInt = 1 := rfl
  have q_f : (bz false).toInt = 0 := rfl
  have q_0 : (0 : Int32).toInt = 0 := rfl
  unfold w_X3_markEdges
  have j_2 : ∀ n_2 : Nat, ∀ (l2_2 : Int32) (v_edges_2 : Nat → Bool), 0 ≤ l2_2.toInt → ((-1) * l2_2.toInt + 2147483648).toNat < n_2 → w_X3_markEdges_2 p1 v_subject_count v_subject_items nv_subject_items Q n_2 l2_2 v_edges_2 := by
    intro n_2
    induction n_2 with
    | zero =>
      intro l2_2 v_edges_2 f1 hm_2
      exfalso; omega
    | succ n_2 ih_2 =>
      intro l2_2 v_edges_2 f1 hm_2
      unfold w_X3_markEdges_2
      unfold w_X3_markEdges_2B
      refine ⟨fun c8 => ?_, fun c8 => ?_⟩
      · have f2 : 4 ≤ l2_2.toInt := i_le (a := 4) (b := l2_2.toInt) rfl rfl c8
        exact hq v_edges_2 
      · have f3 : l2_2.toInt < 4 := i_nle (a := 4) (b := l2_2.toInt) rfl rfl c8
        refine ok_X11_edgeHolds (by omega) (by omega) (by omega) (fun r22 f4 f5 => ?_)
        refine ⟨i_in (by omega) (by omega), ?_⟩
        intro g25 eg25
        intro x26 ex26
        have f6 : x26.toInt = l2_2.toInt + 1 := i_add (a := l2_2.toInt) (b := 1) ex26 rfl rfl (by omega) (by omega)
        exact ih_2 x26 g25 (by omega) (by have h8_0 := i_rng l2_2; have h8_1 := i_rng x26; omega)
  exact ⟨(2147483648 : Int).toNat + 1, j_2   ((2147483648 : Int).toNat + 1) 0 v_edges (by omega) (by omega)⟩
set_option maxHeartbeats 4000000 in
theorem ok_X3_tell {a1_items : Nat → Int32} {na1_items : Nat} {v_width : Int32} {v_cells : Nat → Int32} {Q : Int32 → Bool → (Nat → Int32) → Prop} (a0 : (na1_items : Int) ≤ 1000) (hq : ∀ (oa1_count : Int32) (oa1_over : Bool) (oa1_items : Nat → Int32), 0 ≤ oa1_count.toInt + 1 → 0 ≤ oa1_count.toInt → oa1_count.toInt ≤ 20 → oa1_count.toInt ≤ 21 → oa1_count.toInt ≤ (na1_items : Int) → Q oa1_count oa1_over oa1_items) : w_X3_tell a1_items na1_items v_width v_cells Q := by
  have q_t : (bz true).toInt = 1 := rfl
  have q_f : (bz false).toInt = 0 := rfl
  have q_0 : (0 : Int32).toInt = 0 := rfl
  unfold w_X3_tell
  refine ok_X7_empty  (fun r1_0 r1_1 f1 f2 => ?_)
  have j_6 : ∀ n_6 : Nat, ∀ (l2_6 : Int32) (a1_count_6 : Int32) (a1_over_6 : Bool) (a1_items_6 : Nat → Int32), l2_6.toInt ≤ 20 → a1_count_6.toInt ≤ l2_6.toInt → 0 ≤ a1_count_6.toInt → a1_count_6.toInt ≤ (na1_items : Int) → ((-1) * l2_6.toInt + 20).toNat < n_6 → w_X3_tell_6 na1_items v_width v_cells Q n_6 l2_6 a1_count_6 a1_over_6 a1_items_6 := by
    intro n_6
    induction n_6 with
    | zero =>
      intro l2_6 a1_count_6 a1_over_6 a1_items_6 f3 f4 f5 f6 hm_6
      exfalso; omega
    | succ n_6 ih_6 =>
      intro l2_6 a1_count_6 a1_over_6 a1_items_6 f3 f4 f5 f6 hm_6
      unfold w_X3_tell_6
      unfold w_X3_tell_6B
      have j_36 : ((v_width.toInt ≤ l2_6.toInt) ∨ (l2_6.toInt + 1 ≤ v_width.toInt ∧ 20 ≤ l2_6.toInt)) → w_X3_tell_36 Q a1_count_6 a1_over_6 a1_items_6 := by
        intro f7
        unfold w_X3_tell_36
        exact hq a1_count_6 a1_over_6 a1_items_6 (by omega) (by omega) (by omega) (by omega) (by omega)
      refine ⟨fun c11 => ?_, fun c11 => ?_⟩
      · have f8 : v_width.toInt ≤ l2_6.toInt := i_le (a := v_width.toInt) (b := l2_6.toInt) rfl rfl c11
        exact j_36  (by omega)
      · have f9 : l2_6.toInt < v_width.toInt := i_nle (a := v_width.toInt) (b := l2_6.toInt) rfl rfl c11
        refine ⟨fun c17 => ?_, fun c17 => ?_⟩
        · have f10 : 20 ≤ l2_6.toInt := i_le (a := 20) (b := l2_6.toInt) rfl rfl c17
          exact j_36  (by omega)
        · have f11 : l2_6.toInt < 20 := i_nle (a := 20) (b := l2_6.toInt) rfl rfl c17
          refine ⟨i_in (by omega) (by omega), ?_⟩
          intro x26 ex26
          refine ok_X7_add (by omega) (by omega) (by omega) (fun r27_0 r27_1 r27_2 f12 f13 f14 f15 => ?_)
          intro x30 ex30
          have f16 : x30.toInt = l2_6.toInt + 1 := i_add (a := l2_6.toInt) (b := 1) ex30 rfl rfl (by omega) (by omega)
          exact ih_6 x30 r27_0 r27_1 r27_2 (by omega) (by omega) (by omega) (by omega) (by have h8_0 := i_rng l2_6; have h8_1 := i_rng x30; omega)
  exact ⟨(20 : Int).toNat + 1, j_6   ((20 : Int).toNat + 1) 0 r1_0 r1_1 a1_items (by omega) (by omega) (by omega) (by omega) (by omega)⟩
set_option maxHeartbeats 4000000 in
theorem ok_X3_isNew {p1 : Int32} {v_stamp : Int32} {v_seen : Nat → Int32} {Q : Int32 → (Nat → Int32) → Prop} (hq : ∀ (r : Int32) (ov_seen : Nat → Int32), ((r.toInt = 1 ∧ 0 ≤ p1.toInt ∧ p1.toInt ≤ 5631) ∨ (r.toInt = 0)) → Q r ov_seen) : w_X3_isNew p1 v_stamp v_seen Q := by
  have q_t : (bz true).toInt = 1 := rfl
  have q_f : (bz false).toInt = 0 := rfl
  have q_0 : (0 : Int32).toInt = 0 := rfl
  have q_1 : (1 : Int32).toInt = 1 := rfl
  unfold w_X3_isNew
  have j_24 : ((p1.toInt + 1 ≤ 0) ∨ (0 ≤ p1.toInt ∧ 5632 ≤ p1.toInt) ∨ (0 ≤ p1.toInt ∧ p1.toInt ≤ 5631)) → w_X3_isNew_24 Q v_seen := by
    intro f1
    unfold w_X3_isNew_24
    exact hq 0 v_seen (by omega)
  refine ⟨fun c1 => ?_, fun c1 => ?_⟩
  · have f2 : p1.toInt < 0 := i_lt (a := p1.toInt) (b := 0) rfl rfl c1
    exact j_24  (by omega)
  · have f3 : 0 ≤ p1.toInt := i_nlt (a := p1.toInt) (b := 0) rfl rfl c1
    refine ⟨fun c8 => ?_, fun c8 => ?_⟩
    · have f4 : 5632 ≤ p1.toInt := i_le (a := 5632) (b := p1.toInt) rfl rfl c8
      exact j_24  (by omega)
    · have f5 : p1.toInt < 5632 := i_nle (a := 5632) (b := p1.toInt) rfl rfl c8
      refine ⟨i_in (by omega) (by omega), ?_⟩
      intro x16 ex16
      refine ⟨fun c21 => ?_, fun c21 => ?_⟩
      · have f6 : x16.toInt ≠ v_stamp.toInt := i_ne (a := x16.toInt) (b := v_stamp.toInt) rfl rfl c21
        refine ⟨i_in (by omega) (by omega), ?_⟩
        intro g35 eg35
        exact hq 1 g35 (by omega)
      · have f7 : x16.toInt = v_stamp.toInt := i_eq (a := x16.toInt) (b := v_stamp.toInt) rfl rfl c21
        exact j_24  (by omega)
set_option maxHeartbeats 4000000 in
theorem ok_X3_push {p1 : Int32} {p2 : Int32} {v_stackCount : Int32} {v_stack : Nat → Int32} {v_kept : Nat → Int32} {Q : Int32 → (Nat → Int32) → (Nat → Int32) → Prop} (hq : ∀ (ov_stackCount : Int32) (ov_stack : Nat → Int32) (ov_kept : Nat → Int32), v_stackCount.toInt ≤ ov_stackCount.toInt → Q ov_stackCount ov_stack ov_kept) : w_X3_push p1 p2 v_stackCount v_stack v_kept Q := by
  have q_t : (bz true).toInt = 1 := rfl
  have q_f : (bz false).toInt = 0 := rfl
  unfold w_X3_push
  have j_47 : ∀ (v_stackCount_47 : Int32) (v_stack_47 : Nat → Int32) (v_kept_47 : Nat → Int32), v_stackCount.toInt ≤ v_stackCount_47.toInt → ((v_stackCount_47.toInt = v_stackCount.toInt ∧ v_stackCount.toInt + 1 ≤ 0) ∨ (v_stackCount_47.toInt = v_stackCount.toInt ∧ 0 ≤ v_stackCount.toInt ∧ 11266 ≤ v_stackCount.toInt) ∨ (0 ≤ v_stackCount.toInt ∧ v_stackCount.toInt ≤ 11265 ∧ v_stackCount_47.toInt = v_stackCount.toInt + 1)) → w_X3_push_47 Q v_stackCount_47 v_stack_47 v_kept_47 := by
    intro v_stackCount_47 v_stack_47 v_kept_47 f1 f2
    unfold w_X3_push_47
    exact hq v_stackCount_47 v_stack_47 v_kept_47 (by omega)
  refine ⟨fun c4 => ?_, fun c4 => ?_⟩
  · have f3 : v_stackCount.toInt < 0 := i_lt (a := v_stackCount.toInt) (b := 0) rfl rfl c4
    exact j_47 v_stackCount v_stack v_kept (by omega) (by omega)
  · have f4 : 0 ≤ v_stackCount.toInt := i_nlt (a := v_stackCount.toInt) (b := 0) rfl rfl c4
    refine ⟨fun c14 => ?_, fun c14 => ?_⟩
    · have f5 : 11266 ≤ v_stackCount.toInt := i_le (a := 11266) (b := v_stackCount.toInt) rfl rfl c14
      exact j_47 v_stackCount v_stack v_kept (by omega) (by omega)
    · have f6 : v_stackCount.toInt < 11266 := i_nle (a := 11266) (b := v_stackCount.toInt) rfl rfl c14
      refine ⟨i_in (by omega) (by omega), ?_⟩
      intro g26 eg26
      refine ⟨i_in (by omega) (by omega), ?_⟩
      intro g36 eg36
      intro x43 ex43
      have f7 : x43.toInt = v_stackCount.toInt + 1 := i_add (a := v_stackCount.toInt) (b := 1) ex43 rfl rfl (by omega) (by omega)
      exact j_47 x43 g26 g36 (by omega) (by omega)
set_option maxHeartbeats 4000000 in
theorem ok_X3_exchangeLists {v_nextCount : Int32} {v_stamp : Int32} {Q : Int32 → Int32 → Int32 → Prop} (hq : ∀ (ov_nowCount : Int32) (ov_nextCount : Int32) (ov_stamp : Int32), ov_nowCount.toInt = v_nextCount.toInt → ov_nextCount.toInt = 0 → Q ov_nowCount ov_nextCount ov_stamp) : w_X3_exchangeLists v_nextCount v_stamp Q := by
  have q_t : (bz true).toInt = 1 := rfl
  have q_f : (bz false).toInt = 0 := rfl
  have q_0 : (0 : Int32).toInt = 0 := rfl
  unfold w_X3_exchangeLists
  intro x400055 ex400055
  exact hq v_nextCount 0 x400055 (by omega) (by omega)
set_option maxHeartbeats 4000000 in
theorem ok_X3_stopAt {p1 : Int32} {v_nextCount : Int32} {v_stamp : Int32} {v_nextAt : Nat → Int32} {v_nextCells : Nat → Int32} {v_waits : Nat → Int32} {v_cells : Nat → Int32} {Q : Int32 → (Nat → Int32) → (Nat → Int32) → (Nat → Int32) → Prop} (hq : ∀ (ov_nextCount : Int32) (ov_nextAt : Nat → Int32) (ov_nextCells : Nat → Int32) (ov_waits : Nat → Int32), v_nextCount.toInt ≤ ov_nextCount.toInt → Q ov_nextCount ov_nextAt ov_nextCells ov_waits) : w_X3_stopAt p1 v_nextCount v_stamp v_nextAt v_nextCells v_waits v_cells Q := by
  have q_t : (bz true).toInt = 1 := rfl
  have q_f : (bz false).toInt = 0 := rfl
  have q_0 : (0 : Int32).toInt = 0 := rfl
  have q_1 : (1 : Int32).toInt = 1 := rfl
  unfold w_X3_stopAt
  have j_29 : ∀ (s0_29 : Int32), ((s0_29.toInt = 1 ∧ 0 ≤ p1.toInt ∧ p1.toInt ≤ 511) ∨ (s0_29.toInt = 0)) → w_X3_stopAt_29 p1 v_stamp v_cells Q s0_29 v_nextCount v_nextAt v_nextCells v_waits := by
    intro s0_29 f1
    unfold w_X3_stopAt_29
    have j_113 : ∀ (v_nextCount_113 : Int32) (v_nextAt_113 : Nat → Int32) (v_nextCells_113 : Nat → Int32) (v_waits_113 : Nat → Int32), v_nextCount.toInt ≤ v_nextCount_113.toInt → w_X3_stopAt_113 Q v_nextCount_113 v_nextAt_113 v_nextCells_113 v_waits_113 := by
      intro v_nextCount_113 v_nextAt_113 v_nextCells_113 v_waits_113 f2
      unfold w_X3_stopAt_113
      exact hq v_nextCount_113 v_nextAt_113 v_nextCells_113 v_waits_113 (by omega)
    refine ⟨fun c31 => ?_, fun c31 => ?_⟩
    · have f3 : s0_29.toInt ≠ 0 := i_ne (a := s0_29.toInt) (b := 0) rfl rfl c31
      exact j_113 v_nextCount v_nextAt v_nextCells v_waits (by omega)
    · have f4 : s0_29.toInt = 0 := i_eq (a := s0_29.toInt) (b := 0) rfl rfl c31
      refine ⟨fun c35 => ?_, fun c35 => ?_⟩
      · have f5 : p1.toInt < 0 := i_lt (a := p1.toInt) (b := 0) rfl rfl c35
        exact j_113 v_nextCount v_nextAt v_nextCells v_waits (by omega)
      · have f6 : 0 ≤ p1.toInt := i_nlt (a := p1.toInt) (b := 0) rfl rfl c35
        refine ⟨fun c42 => ?_, fun c42 => ?_⟩
        · have f7 : 512 ≤ p1.toInt := i_le (a := 512) (b := p1.toInt) rfl rfl c42
          exact j_113 v_nextCount v_nextAt v_nextCells v_waits (by omega)
        · have f8 : p1.toInt < 512 := i_nle (a := 512) (b := p1.toInt) rfl rfl c42
          refine ⟨fun c49 => ?_, fun c49 => ?_⟩
          · have f9 : v_nextCount.toInt < 0 := i_lt (a := v_nextCount.toInt) (b := 0) rfl rfl c49
            exact j_113 v_nextCount v_nextAt v_nextCells v_waits (by omega)
          · have f10 : 0 ≤ v_nextCount.toInt := i_nlt (a := v_nextCount.toInt) (b := 0) rfl rfl c49
            refine ⟨fun c59 => ?_, fun c59 => ?_⟩
            · have f11 : 256 ≤ v_nextCount.toInt := i_le (a := 256) (b := v_nextCount.toInt) rfl rfl c59
              exact j_113 v_nextCount v_nextAt v_nextCells v_waits (by omega)
            · have f12 : v_nextCount.toInt < 256 := i_nle (a := 256) (b := v_nextCount.toInt) rfl rfl c59
              refine ⟨i_in (by omega) (by omega), ?_⟩
              intro g71 eg71
              refine ⟨i_in (by omega) (by omega), ?_⟩
              intro g81 eg81
              intro x97 ex97
              have f13 : x97.toInt = v_nextCount.toInt * 20 := i_mul (a := v_nextCount.toInt) (b := 20) ex97 rfl rfl (by omega) (by omega)
              refine ⟨(i_nn (a := 0) rfl (by omega)), (i_nn (a := x97.toInt) rfl (by omega)), (i_nn (a := 20) rfl (by omega)), i_cp (a := 0) (b := 20) rfl rfl (by omega) (by omega) (by omega), i_cp (a := x97.toInt) (b := 20) rfl rfl (by omega) (by omega) (by omega), ?_⟩
              intro g100 eg100
              intro x109 ex109
              have f14 : x109.toInt = v_nextCount.toInt + 1 := i_add (a := v_nextCount.toInt) (b := 1) ex109 rfl rfl (by omega) (by omega)
              exact j_113 x109 g81 g100 g71 (by omega)
  have j_28 : ((p1.toInt + 1 ≤ 0) ∨ (0 ≤ p1.toInt ∧ 512 ≤ p1.toInt) ∨ (0 ≤ p1.toInt ∧ p1.toInt ≤ 511)) → w_X3_stopAt_28 p1 v_stamp v_cells Q v_nextCount v_nextAt v_nextCells v_waits := by
    intro f15
    unfold w_X3_stopAt_28
    exact j_29 0 (by omega)
  refine ⟨fun c1 => ?_, fun c1 => ?_⟩
  · have f16 : p1.toInt < 0 := i_lt (a := p1.toInt) (b := 0) rfl rfl c1
    exact j_28  (by omega)
  · have f17 : 0 ≤ p1.toInt := i_nlt (a := p1.toInt) (b := 0) rfl rfl c1
    refine ⟨fun c8 => ?_, fun c8 => ?_⟩
    · have f18 : 512 ≤ p1.toInt := i_le (a := 512) (b := p1.toInt) rfl rfl c8
      exact j_28  (by omega)
    · have f19 : p1.toInt < 512 := i_nle (a := 512) (b := p1.toInt) rfl rfl c8
      refine ⟨i_in (by omega) (by omega), ?_⟩
      intro x16 ex16
      refine ⟨fun c21 => ?_, fun c21 => ?_⟩
      · have f20 : x16.toInt ≠ v_stamp.toInt := i_ne (a := x16.toInt) (b := v_stamp.toInt) rfl rfl c21
        exact j_28  (by omega)
      · have f21 : x16.toInt = v_stamp.toInt := i_eq (a := x16.toInt) (b := v_stamp.toInt) rfl rfl c21
        exact j_29 1 (by omega)
set_option maxHeartbeats 4000000 in
theorem ok_X3_spreadOne {p1 : Int32} {p2 : Int32} {p3 : Int32} {v_nextCount : Int32} {v_stamp : Int32} {v_stackCount : Int32} {v_program_count : Int32} {v_program_kinds : Nat → Int32} {v_program_subjects : Nat → Int32} {v_program_nexts : Nat → Int32} {v_program_others : Nat → Int32} {v_edges : Nat → Bool} {v_nextAt : Nat → Int32} {v_nextCells : Nat → Int32} {v_waits : Nat → Int32} {v_cells : Nat → Int32} {v_stack : Nat → Int32} {v_kept : Nat → Int32} {Q : Int32 → Int32 → (Nat → Int32) → (Nat → Int32) → (Nat → Int32) → (Nat → Int32) → (Nat → Int32) → (Nat → Int32) → Prop} (a0 : 0 ≤ v_program_count.toInt) (a1 : v_program_count.toInt ≤ 512) (hq : ∀ (ov_nextCount : Int32) (ov_stackCount : Int32) (ov_nextAt : Nat → Int32) (ov_nextCells : Nat → Int32) (ov_waits : Nat → Int32) (ov_cells : Nat → Int32) (ov_stack : Nat → Int32) (ov_kept : Nat → Int32), v_nextCount.toInt ≤ ov_nextCount.toInt → v_stackCount.toInt ≤ ov_stackCount.toInt → Q ov_nextCount ov_stackCount ov_nextAt ov_nextCells ov_waits ov_cells ov_stack ov_kept) : w_X3_spreadOne p1 p2 p3 v_nextCount v_stamp v_stackCount v_program_count v_program_kinds v_program_subjects v_program_nexts v_program_others v_edges v_nextAt v_nextCells v_waits v_cells v_stack v_kept Q := by
  have q_t : (bz true).toInt = 1 := rfl
  have q_f : (bz false).toInt = 0 := rfl
  have q_0 : (0 : Int32).toInt = 0 := rfl
  have q_1 : (1 : Int32).toInt = 1 := rfl
  have q_2 : (2 : Int32).toInt = 2 := rfl
  unfold w_X3_spreadOne
  refine ok_X5_nextOf (by omega) (by omega) (fun r5 f1 => ?_)
  refine ok_X5_kindOf (by omega) (by omega) (fun r15 f2 => ?_)
  have j_210 : ∀ (v_nextCount_210 : Int32) (v_stackCount_210 : Int32) (v_nextAt_210 : Nat → Int32) (v_nextCells_210 : Nat → Int32) (v_waits_210 : Nat → Int32) (v_cells_210 : Nat → Int32) (v_stack_210 : Nat → Int32) (v_kept_210 : Nat → Int32), v_nextCount.toInt ≤ v_nextCount_210.toInt → v_stackCount.toInt ≤ v_stackCount_210.toInt → w_X3_spreadOne_210 Q v_nextCount_210 v_stackCount_210 v_nextAt_210 v_nextCells_210 v_waits_210 v_cells_210 v_stack_210 v_kept_210 := by
    intro v_nextCount_210 v_stackCount_210 v_nextAt_210 v_nextCells_210 v_waits_210 v_cells_210 v_stack_210 v_kept_210 f3 f4
    unfold w_X3_spreadOne_210
    exact hq v_nextCount_210 v_stackCount_210 v_nextAt_210 v_nextCells_210 v_waits_210 v_cells_210 v_stack_210 v_kept_210 (by omega) (by omega)
  have j_144 : ((r15.toInt = 2) ∨ (r15.toInt = 3)) → w_X3_spreadOne_144 p1 p2 p3 v_program_count v_program_kinds v_program_subjects Q r5 v_nextCount v_stackCount v_nextAt v_nextCells v_waits v_cells v_stack v_kept := by
    intro f5
    unfold w_X3_spreadOne_144
    refine ok_X5_subjectOf (by omega) (by omega) (fun r150 f6 => ?_)
    intro x153 ex153
    refine ok_X5_kindOf (by omega) (by omega) (fun r159 f7 => ?_)
    have j_171 : ∀ (s0_171 : Int32), ((s0_171.toInt = 1) ∨ (s0_171.toInt = 0 ∧ r159.toInt = 2)) → w_X3_spreadOne_171 p2 p3 Q s0_171 x153 r5 v_nextCount v_stackCount v_nextAt v_nextCells v_waits v_cells v_stack v_kept := by
      intro s0_171 f8
      unfold w_X3_spreadOne_171
      intro x171 ex171
      intro x178 ex178
      have f9 : x178.toInt = (-1) - x171.toInt := i_sub (a := (-1)) (b := x171.toInt) ex178 rfl rfl (by have h8_0 := i_rng x171; omega) (by have h8_0 := i_rng x171; omega)
      refine ok_X3_cellAt  (fun r182 f10 => ?_)
      refine ok_X3_push  (fun r185_0 r185_1 r185_2 f11 => ?_)
      refine ok_X3_setCell  (fun r192_0 => ?_)
      refine ok_X3_push  (fun r199_0 r199_1 r199_2 f12 => ?_)
      exact j_210 v_nextCount r199_0 v_nextAt v_nextCells v_waits r192_0 r199_1 r199_2 (by omega) (by omega)
    refine ⟨fun c163 => ?_, fun c163 => ?_⟩
    · have f13 : r159.toInt ≠ 2 := i_ne (a := r159.toInt) (b := 2) rfl rfl c163
      exact j_171 1 (by omega)
    · have f14 : r159.toInt = 2 := i_eq (a := r159.toInt) (b := 2) rfl rfl c163
      exact j_171 0 (by omega)
  refine ⟨fun c18_0 => ?_, fun c18_1 => ?_, fun c18_2 => ?_, fun c18_3 => ?_, fun c18_4 => ?_, ?_⟩
  · have f15 : r15.toInt = 1 := i_eq (a := r15.toInt) (b := 1) rfl rfl c18_0
    refine ok_X5_subjectOf (by omega) (by omega) (fun r57 f16 => ?_)
    refine ⟨fun c64 => ?_, fun c64 => ?_⟩
    · have f17 : r57.toInt < 0 := i_lt (a := r57.toInt) (b := 0) rfl rfl c64
      exact j_210 v_nextCount v_stackCount v_nextAt v_nextCells v_waits v_cells v_stack v_kept (by omega) (by omega)
    · have f18 : 0 ≤ r57.toInt := i_nlt (a := r57.toInt) (b := 0) rfl rfl c64
      refine ⟨fun c74 => ?_, fun c74 => ?_⟩
      · have f19 : 4 ≤ r57.toInt := i_le (a := 4) (b := r57.toInt) rfl rfl c74
        exact j_210 v_nextCount v_stackCount v_nextAt v_nextCells v_waits v_cells v_stack v_kept (by omega) (by omega)
      · have f20 : r57.toInt < 4 := i_nle (a := 4) (b := r57.toInt) rfl rfl c74
        refine ⟨i_in (by omega) (by omega), ?_⟩
        intro x83 ex83
        have f21 : (0 ≤ x83.toInt ∧ x83.toInt ≤ 1) := i_bz ex83
        refine ⟨fun c84 => ?_, fun c84 => ?_⟩
        · have f22 : x83.toInt = 0 := i_eq (a := x83.toInt) (b := 0) rfl rfl c84
          exact j_210 v_nextCount v_stackCount v_nextAt v_nextCells v_waits v_cells v_stack v_kept (by omega) (by omega)
        · have f23 : x83.toInt ≠ 0 := i_ne (a := x83.toInt) (b := 0) rfl rfl c84
          refine ok_X3_push  (fun r91_0 r91_1 r91_2 f24 => ?_)
          exact j_210 v_nextCount r91_0 v_nextAt v_nextCells v_waits v_cells r91_1 r91_2 (by omega) (by omega)
  · have f25 : r15.toInt = 2 := i_eq (a := r15.toInt) (b := 2) rfl rfl c18_1
    exact j_144  (by omega)
  · have f26 : r15.toInt = 3 := i_eq (a := r15.toInt) (b := 3) rfl rfl c18_2
    exact j_144  (by omega)
  · have f27 : r15.toInt = 4 := i_eq (a := r15.toInt) (b := 4) rfl rfl c18_3
    refine ok_X5_otherOf (by omega) (by omega) (fun r103 f28 => ?_)
    refine ok_X3_push  (fun r107_0 r107_1 r107_2 f29 => ?_)
    refine ok_X3_push  (fun r114_0 r114_1 r114_2 f30 => ?_)
    exact j_210 v_nextCount r114_0 v_nextAt v_nextCells v_waits v_cells r114_1 r114_2 (by omega) (by omega)
  · have f31 : r15.toInt = 5 := i_eq (a := r15.toInt) (b := 5) rfl rfl c18_4
    refine ok_X5_otherOf (by omega) (by omega) (fun r126 f32 => ?_)
    refine ⟨fun c129 => ?_, fun c129 => ?_⟩
    · have f33 : p2.toInt < r126.toInt := i_lt (a := p2.toInt) (b := r126.toInt) rfl rfl c129
      exact j_210 v_nextCount v_stackCount v_nextAt v_nextCells v_waits v_cells v_stack v_kept (by omega) (by omega)
    · have f34 : r126.toInt ≤ p2.toInt := i_nlt (a := p2.toInt) (b := r126.toInt) rfl rfl c129
      intro x137 ex137
      refine ok_X3_push  (fun r138_0 r138_1 r138_2 f35 => ?_)
      exact j_210 v_nextCount r138_0 v_nextAt v_nextCells v_waits v_cells r138_1 r138_2 (by omega) (by omega)
  · intro c18_0 c18_1 c18_2 c18_3 c18_4
    have f36 : r15.toInt ≠ 1 := i_ne (a := r15.toInt) (b := 1) rfl rfl c18_0
    have f37 : r15.toInt ≠ 2 := i_ne (a := r15.toInt) (b := 2) rfl rfl c18_1
    have f38 : r15.toInt ≠ 3 := i_ne (a := r15.toInt) (b := 3) rfl rfl c18_2
    have f39 : r15.toInt ≠ 4 := i_ne (a := r15.toInt) (b := 4) rfl rfl c18_3
    have f40 : r15.toInt ≠ 5 := i_ne (a := r15.toInt) (b := 5) rfl rfl c18_4
    refine ok_X3_stopAt  (fun r207_0 r207_1 r207_2 r207_3 f41 => ?_)
    exact j_210 r207_0 v_stackCount r207_1 r207_2 r207_3 v_cells v_stack v_kept (by omega) (by omega)
set_option maxHeartbeats 4000000 in
theorem ok_X3_spread {p1 : Int32} {p2 : Int32} {p3 : Int32} {v_nextCount : Int32} {v_stamp : Int32} {v_program_count : Int32} {v_program_kinds : Nat → Int32} {v_program_subjects : Nat → Int32} {v_program_nexts : Nat → Int32} {v_program_others : Nat → Int32} {v_edges : Nat → Bool} {v_nextAt : Nat → Int32} {v_nextCells : Nat → Int32} {v_seen : Nat → Int32} {v_waits : Nat → Int32} {v_cells : Nat → Int32} {v_stack : Nat → Int32} {v_kept : Nat → Int32} {Q : Int32 → Int32 → (Nat → Int32) → (Nat → Int32) → (Nat → Int32) → (Nat → Int32) → (Nat → Int32) → (Nat → Int32) → (Nat → Int32) → Prop} (a0 : 0 ≤ v_program_count.toInt) (a1 : v_program_count.toInt ≤ 512) (hq : ∀ (ov_nextCount : Int32) (ov_stackCount : Int32) (ov_nextAt : Nat → Int32) (ov_nextCells : Nat → Int32) (ov_seen : Nat → Int32) (ov_waits : Nat → Int32) (ov_cells : Nat → Int32) (ov_stack : Nat → Int32) (ov_kept : Nat → Int32), v_nextCount.toInt ≤ ov_nextCount.toInt → 0 ≤ ov_stackCount.toInt + 1 → 0 ≤ ov_stackCount.toInt → Q ov_nextCount ov_stackCount ov_nextAt ov_nextCells ov_seen ov_waits ov_cells ov_stack ov_kept) : w_X3_spread p1 p2 p3 v_nextCount v_stamp v_program_count v_program_kinds v_program_subjects v_program_nexts v_program_others v_edges v_nextAt v_nextCells v_seen v_waits v_cells v_stack v_kept Q := by
  have q_t : (bz true).toInt = 1 := rfl
  have q_f : (bz false).toInt = 0 := rfl
  have q_0 : (0 : Int32).toInt = 0 := rfl
  unfold w_X3_spread
  refine ok_X3_push  (fun r8_0 r8_1 r8_2 f1 => ?_)
  have j_14 : ∀ n_14 : Nat, ∀ (l4_14 : Int32) (v_nextCount_14 : Int32) (v_stackCount_14 : Int32) (v_nextAt_14 : Nat → Int32) (v_nextCells_14 : Nat → Int32) (v_seen_14 : Nat → Int32) (v_waits_14 : Nat → Int32) (v_cells_14 : Nat → Int32) (v_stack_14 : Nat → Int32) (v_kept_14 : Nat → Int32), 0 ≤ l4_14.toInt → l4_14.toInt ≤ 11266 → v_nextCount.toInt ≤ v_nextCount_14.toInt → 0 ≤ v_stackCount_14.toInt → ((-1) * l4_14.toInt + 11266).toNat < n_14 → w_X3_spread_14 p3 v_stamp v_program_count v_program_kinds v_program_subjects v_program_nexts v_program_others v_edges Q n_14 l4_14 v_nextCount_14 v_stackCount_14 v_nextAt_14 v_nextCells_14 v_seen_14 v_waits_14 v_cells_14 v_stack_14 v_kept_14 := by
    intro n_14
    induction n_14 with
    | zero =>
      intro l4_14 v_nextCount_14 v_stackCount_14 v_nextAt_14 v_nextCells_14 v_seen_14 v_waits_14 v_cells_14 v_stack_14 v_kept_14 f2 f3 f4 f5 hm_14
      exfalso; omega
    | succ n_14 ih_14 =>
      intro l4_14 v_nextCount_14 v_stackCount_14 v_nextAt_14 v_nextCells_14 v_seen_14 v_waits_14 v_cells_14 v_stack_14 v_kept_14 f2 f3 f4 f5 hm_14
      unfold w_X3_spread_14
      unfold w_X3_spread_14B
      have j_119 : ((11266 ≤ l4_14.toInt) ∨ (l4_14.toInt ≤ 11265 ∧ v_stackCount_14.toInt ≤ 0) ∨ (l4_14.toInt ≤ 11265 ∧ 1 ≤ v_stackCount_14.toInt ∧ 11267 ≤ v_stackCount_14.toInt)) → w_X3_spread_119 Q v_nextCount_14 v_stackCount_14 v_nextAt_14 v_nextCells_14 v_seen_14 v_waits_14 v_cells_14 v_stack_14 v_kept_14 := by
        intro f6
        unfold w_X3_spread_119
        exact hq v_nextCount_14 v_stackCount_14 v_nextAt_14 v_nextCells_14 v_seen_14 v_waits_14 v_cells_14 v_stack_14 v_kept_14 (by omega) (by omega) (by omega)
      refine ⟨fun c19 => ?_, fun c19 => ?_⟩
      · have f7 : 11266 ≤ l4_14.toInt := i_le (a := 11266) (b := l4_14.toInt) rfl rfl c19
        exact j_119  (by omega)
      · have f8 : l4_14.toInt < 11266 := i_nle (a := 11266) (b := l4_14.toInt) rfl rfl c19
        refine ⟨fun c26 => ?_, fun c26 => ?_⟩
        · have f9 : v_stackCount_14.toInt ≤ 0 := i_le (a := v_stackCount_14.toInt) (b := 0) rfl rfl c26
          exact j_119  (by omega)
        · have f10 : 0 < v_stackCount_14.toInt := i_nle (a := v_stackCount_14.toInt) (b := 0) rfl rfl c26
          refine ⟨fun c36 => ?_, fun c36 => ?_⟩
          · have f11 : 11266 < v_stackCount_14.toInt := i_lt (a := 11266) (b := v_stackCount_14.toInt) rfl rfl c36
            exact j_119  (by omega)
          · have f12 : v_stackCount_14.toInt ≤ 11266 := i_nlt (a := 11266) (b := v_stackCount_14.toInt) rfl rfl c36
            intro x45 ex45
            have f13 : x45.toInt = v_stackCount_14.toInt - 1 := i_sub (a := v_stackCount_14.toInt) (b := 1) ex45 rfl rfl (by omega) (by omega)
            refine ⟨i_in (by omega) (by omega), ?_⟩
            intro x57 ex57
            refine ⟨i_in (by omega) (by omega), ?_⟩
            intro x68 ex68
            have j_113 : ∀ (v_nextCount_113 : Int32) (v_stackCount_113 : Int32) (v_nextAt_113 : Nat → Int32) (v_nextCells_113 : Nat → Int32) (v_seen_113 : Nat → Int32) (v_waits_113 : Nat → Int32) (v_cells_113 : Nat → Int32) (v_stack_113 : Nat → Int32) (v_kept_113 : Nat → Int32), v_nextCount.toInt ≤ v_nextCount_113.toInt → v_nextCount_14.toInt ≤ v_nextCount_113.toInt → v_stackCount_14.toInt ≤ v_stackCount_113.toInt + 1 → ((v_nextCount_113.toInt = v_nextCount_14.toInt ∧ v_stackCount_113.toInt = x45.toInt) ∨ (v_nextCount_14.toInt ≤ v_nextCount_113.toInt ∧ x45.toInt ≤ v_stackCount_113.toInt)) → w_X3_spread_113 Q (w_X3_spread_14 p3 v_stamp v_program_count v_program_kinds v_program_subjects v_program_nexts v_program_others v_edges Q n_14) l4_14 v_nextCount_113 v_stackCount_113 v_nextAt_113 v_nextCells_113 v_seen_113 v_waits_113 v_cells_113 v_stack_113 v_kept_113 := by
              intro v_nextCount_113 v_stackCount_113 v_nextAt_113 v_nextCells_113 v_seen_113 v_waits_113 v_cells_113 v_stack_113 v_kept_113 f14 f15 f16 f17
              unfold w_X3_spread_113
              intro x113 ex113
              have f18 : x113.toInt = l4_14.toInt + 1 := i_add (a := l4_14.toInt) (b := 1) ex113 rfl rfl (by omega) (by omega)
              exact ih_14 x113 v_nextCount_113 v_stackCount_113 v_nextAt_113 v_nextCells_113 v_seen_113 v_waits_113 v_cells_113 v_stack_113 v_kept_113 (by omega) (by omega) (by omega) (by omega) (by have h8_0 := i_rng l4_14; have h8_1 := i_rng x113; omega)
            refine ⟨fun c73 => ?_, fun c73 => ?_⟩
            · have f19 : 0 ≤ x57.toInt := i_le (a := 0) (b := x57.toInt) rfl rfl c73
              intro x94 ex94
              intro x97 ex97
              refine ok_X3_isNew  (fun r98 r98_0 f20 => ?_)
              refine ⟨fun c101 => ?_, fun c101 => ?_⟩
              · have f21 : r98.toInt = 0 := i_eq (a := r98.toInt) (b := 0) rfl rfl c101
                exact j_113 v_nextCount_14 x45 v_nextAt_14 v_nextCells_14 r98_0 v_waits_14 v_cells_14 v_stack_14 v_kept_14 (by omega) (by omega) (by omega) (by omega)
              · have f22 : r98.toInt ≠ 0 := i_ne (a := r98.toInt) (b := 0) rfl rfl c101
                refine ok_X3_spreadOne (by omega) (by omega) (fun r110_0 r110_1 r110_2 r110_3 r110_4 r110_5 r110_6 r110_7 f23 f24 => ?_)
                exact j_113 r110_0 r110_1 r110_2 r110_3 r98_0 r110_4 r110_5 r110_6 r110_7 (by omega) (by omega) (by omega) (by omega)
            · have f25 : x57.toInt < 0 := i_nle (a := 0) (b := x57.toInt) rfl rfl c73
              intro x80 ex80
              have f26 : x80.toInt = (-1) - x57.toInt := i_sub (a := (-1)) (b := x57.toInt) ex80 rfl rfl (by omega) (by have h8_0 := i_rng x57; omega)
              refine ok_X3_setCell  (fun r83_0 => ?_)
              exact j_113 v_nextCount_14 x45 v_nextAt_14 v_nextCells_14 v_seen_14 v_waits_14 r83_0 v_stack_14 v_kept_14 (by omega) (by omega) (by omega) (by omega)
  exact ⟨(11266 : Int).toNat + 1, j_14   ((11266 : Int).toNat + 1) 0 v_nextCount r8_0 v_nextAt v_nextCells v_seen v_waits v_cells r8_1 r8_2 (by omega) (by omega) (by omega) (by omega) (by omega)⟩
set_option maxHeartbeats 4000000 in
theorem ok_X3_goAlong {p1 : Int32} {p2 : Int32} {a3_count : Int32} {a3_over : Bool} {a3_items : Nat → Int32} {na3_items : Nat} {v_width : Int32} {v_nowCount : Int32} {v_nextCount : Int32} {v_stamp : Int32} {v_stackCount : Int32} {v_program_count : Int32} {v_program_kinds : Nat → Int32} {v_program_subjects : Nat → Int32} {v_program_nexts : Nat → Int32} {v_program_others : Nat → Int32} {v_edges : Nat → Bool} {v_nowAt : Nat → Int32} {v_nowCells : Nat → Int32} {v_nextAt : Nat → Int32} {v_nextCells : Nat → Int32} {v_seen : Nat → Int32} {v_waits : Nat → Int32} {v_cells : Nat → Int32} {v_stack : Nat → Int32} {v_kept : Nat → Int32} {v_program_tree_count : Int32} {v_program_tree_ranges : Int32} {v_program_tree_sort : Nat → Int32} {v_program_tree_value : Nat → Int32} {v_program_tree_low : Nat → Int32} {v_program_tree_high : Nat → Int32} {v_program_tree_withinCase : Nat → Bool} {v_program_tree_rangeBegin : Nat → Int32} {v_program_tree_rangeEnd : Nat → Int32} {v_subject_count : Int32} {v_subject_items : Nat → Int32} {nv_subject_items : Nat} {Q : Int32 → Int32 → Bool → (Nat → Int32) → Int32 → Int32 → (Nat → Int32) → (Nat → Int32) → (Nat → Int32) → (Nat → Int32) → (Nat → Int32) → (Nat → Int32) → (Nat → Int32) → Prop} (a0 : 0 ≤ a3_count.toInt) (a1 : a3_count.toInt ≤ (na3_items : Int)) (a2 : (na3_items : Int) ≤ 1000) (a3 : 0 ≤ v_program_count.toInt) (a4 : v_program_count.toInt ≤ 512) (a5 : 0 ≤ v_program_tree_count.toInt) (a6 : v_program_tree_count.toInt ≤ 256) (a7 : 0 ≤ v_program_tree_ranges.toInt) (a8 : v_program_tree_ranges.toInt ≤ 512) (a9 : 0 ≤ v_subject_count.toInt) (a10 : v_subject_count.toInt ≤ (nv_subject_items : Int)) (a11 : (nv_subject_items : Int) ≤ 1000) (a12 : 0 ≤ p2.toInt) (a13 : p2.toInt ≤ 1) (hq : ∀ (r : Int32) (oa3_count : Int32) (oa3_over : Bool) (oa3_items : Nat → Int32) (ov_nextCount : Int32) (ov_stackCount : Int32) (ov_nextAt : Nat → Int32) (ov_nextCells : Nat → Int32) (ov_seen : Nat → Int32) (ov_waits : Nat → Int32) (ov_cells : Nat → Int32) (ov_stack : Nat → Int32) (ov_kept : Nat → Int32), v_nextCount.toInt ≤ ov_nextCount.toInt → ((r.toInt = 1 ∧ 0 ≤ oa3_count.toInt + 1 ∧ 0 ≤ oa3_count.toInt ∧ oa3_count.toInt ≤ 20 ∧ oa3_count.toInt ≤ 21 ∧ oa3_count.toInt ≤ (na3_items : Int)) ∨ (r.toInt = 0 ∧ oa3_count.toInt = a3_count.toInt ∧ (bz oa3_over).toInt = (bz a3_over).toInt)) → Q r oa3_count oa3_over oa3_items ov_nextCount ov_stackCount ov_nextAt ov_nextCells ov_seen ov_waits ov_cells ov_stack ov_kept) : w_X3_goAlong p1 p2 a3_count a3_over a3_items na3_items v_width v_nowCount v_nextCount v_stamp v_stackCount v_program_count v_program_kinds v_program_subjects v_program_nexts v_program_others v_edges v_nowAt v_nowCells v_nextAt v_nextCells v_seen v_waits v_cells v_stack v_kept v_program_tree_count v_program_tree_ranges v_program_tree_sort v_program_tree_value v_program_tree_low v_program_tree_high v_program_tree_withinCase v_program_tree_rangeBegin v_program_tree_rangeEnd v_subject_count v_subject_items nv_subject_items Q := by
  have q_t : (bz true).toInt = 1 := rfl
  have q_f : (bz false).toInt = 0 := rfl
  have q_0 : (0 : Int32).toInt = 0 := rfl
  have q_1 : (1 : Int32).toInt = 1 := rfl
  unfold w_X3_goAlong
  have j_3 : ∀ n_3 : Nat, ∀ (l4_3 : Int32) (v_nextCount_3 : Int32) (v_stackCount_3 : Int32) (v_nextAt_3 : Nat → Int32) (v_nextCells_3 : Nat → Int32) (v_seen_3 : Nat → Int32) (v_waits_3 : Nat → Int32) (v_cells_3 : Nat → Int32) (v_stack_3 : Nat → Int32) (v_kept_3 : Nat → Int32), 0 ≤ l4_3.toInt → l4_3.toInt ≤ 256 → v_nextCount.toInt ≤ v_nextCount_3.toInt → ((-1) * l4_3.toInt + 256).toNat < n_3 → w_X3_goAlong_3 p1 p2 na3_items v_width v_nowCount v_stamp v_program_count v_program_kinds v_program_subjects v_program_nexts v_program_others v_edges v_nowAt v_nowCells v_program_tree_count v_program_tree_ranges v_program_tree_sort v_program_tree_value v_program_tree_low v_program_tree_high v_program_tree_withinCase v_program_tree_rangeBegin v_program_tree_rangeEnd v_subject_count v_subject_items nv_subject_items Q a3_count a3_over a3_items n_3 l4_3 v_nextCount_3 v_stackCount_3 v_nextAt_3 v_nextCells_3 v_seen_3 v_waits_3 v_cells_3 v_stack_3 v_kept_3 := by
    intro n_3
    induction n_3 with
    | zero =>
      intro l4_3 v_nextCount_3 v_stackCount_3 v_nextAt_3 v_nextCells_3 v_seen_3 v_waits_3 v_cells_3 v_stack_3 v_kept_3 f1 f2 f3 hm_3
      exfalso; omega
    | succ n_3 ih_3 =>
      intro l4_3 v_nextCount_3 v_stackCount_3 v_nextAt_3 v_nextCells_3 v_seen_3 v_waits_3 v_cells_3 v_stack_3 v_kept_3 f1 f2 f3 hm_3
      unfold w_X3_goAlong_3
      unfold w_X3_goAlong_3B
      have j_156 : ((v_nowCount.toInt ≤ l4_3.toInt) ∨ (l4_3.toInt + 1 ≤ v_nowCount.toInt ∧ 256 ≤ l4_3.toInt)) → w_X3_goAlong_156 Q a3_count a3_over a3_items v_nextCount_3 v_stackCount_3 v_nextAt_3 v_nextCells_3 v_seen_3 v_waits_3 v_cells_3 v_stack_3 v_kept_3 := by
        intro f4
        unfold w_X3_goAlong_156
        exact hq 0 a3_count a3_over a3_items v_nextCount_3 v_stackCount_3 v_nextAt_3 v_nextCells_3 v_seen_3 v_waits_3 v_cells_3 v_stack_3 v_kept_3 (by omega) (by omega)
      refine ⟨fun c9 => ?_, fun c9 => ?_⟩
      · have f5 : v_nowCount.toInt ≤ l4_3.toInt := i_le (a := v_nowCount.toInt) (b := l4_3.toInt) rfl rfl c9
        exact j_156  (by omega)
      · have f6 : l4_3.toInt < v_nowCount.toInt := i_nle (a := v_nowCount.toInt) (b := l4_3.toInt) rfl rfl c9
        refine ⟨fun c17 => ?_, fun c17 => ?_⟩
        · have f7 : 256 ≤ l4_3.toInt := i_le (a := 256) (b := l4_3.toInt) rfl rfl c17
          exact j_156  (by omega)
        · have f8 : l4_3.toInt < 256 := i_nle (a := 256) (b := l4_3.toInt) rfl rfl c17
          refine ⟨i_in (by omega) (by omega), ?_⟩
          intro x26 ex26
          intro x37 ex37
          have f9 : x37.toInt = l4_3.toInt * 20 := i_mul (a := l4_3.toInt) (b := 20) ex37 rfl rfl (by omega) (by omega)
          refine ⟨(i_nn (a := x37.toInt) rfl (by omega)), (i_nn (a := 0) rfl (by omega)), (i_nn (a := 20) rfl (by omega)), i_cp (a := x37.toInt) (b := 20) rfl rfl (by omega) (by omega) (by omega), i_cp (a := 0) (b := 20) rfl rfl (by omega) (by omega) (by omega), ?_⟩
          intro g45 eg45
          refine ok_X5_kindOf (by omega) (by omega) (fun r54 f10 => ?_)
          have j_150 : ∀ (v_nextCount_150 : Int32) (v_stackCount_150 : Int32) (v_nextAt_150 : Nat → Int32) (v_nextCells_150 : Nat → Int32) (v_seen_150 : Nat → Int32) (v_waits_150 : Nat → Int32) (v_cells_150 : Nat → Int32) (v_stack_150 : Nat → Int32) (v_kept_150 : Nat → Int32), v_nextCount.toInt ≤ v_nextCount_150.toInt → v_nextCount_3.toInt ≤ v_nextCount_150.toInt → w_X3_goAlong_150 Q (w_X3_goAlong_3 p1 p2 na3_items v_width v_nowCount v_stamp v_program_count v_program_kinds v_program_subjects v_program_nexts v_program_others v_edges v_nowAt v_nowCells v_program_tree_count v_program_tree_ranges v_program_tree_sort v_program_tree_value v_program_tree_low v_program_tree_high v_program_tree_withinCase v_program_tree_rangeBegin v_program_tree_rangeEnd v_subject_count v_subject_items nv_subject_items Q a3_count a3_over a3_items n_3) l4_3 v_nextCount_150 v_stackCount_150 v_nextAt_150 v_nextCells_150 v_seen_150 v_waits_150 v_cells_150 v_stack_150 v_kept_150 := by
            intro v_nextCount_150 v_stackCount_150 v_nextAt_150 v_nextCells_150 v_seen_150 v_waits_150 v_cells_150 v_stack_150 v_kept_150 f11 f12
            unfold w_X3_goAlong_150
            intro x150 ex150
            have f13 : x150.toInt = l4_3.toInt + 1 := i_add (a := l4_3.toInt) (b := 1) ex150 rfl rfl (by omega) (by omega)
            exact ih_3 x150 v_nextCount_150 v_stackCount_150 v_nextAt_150 v_nextCells_150 v_seen_150 v_waits_150 v_cells_150 v_stack_150 v_kept_150 (by omega) (by omega) (by omega) (by have h8_0 := i_rng l4_3; have h8_1 := i_rng x150; omega)
          refine ⟨fun c59 => ?_, fun c59 => ?_⟩
          · have f14 : r54.toInt = 6 := i_eq (a := r54.toInt) (b := 6) rfl rfl c59
            have j_136 : ((p2.toInt = 0) ∨ (p1.toInt = v_subject_count.toInt)) → w_X3_goAlong_136 p1 na3_items v_width Q a3_count a3_over a3_items v_nextCount_3 v_stackCount_3 v_nextAt_3 v_nextCells_3 v_seen_3 v_waits_3 g45 v_stack_3 v_kept_3 := by
              intro f15
              unfold w_X3_goAlong_136
              intro g142 eg142
              refine ok_X3_tell (by omega) (fun r145_0 r145_1 r145_2 f16 f17 f18 f19 f20 => ?_)
              exact hq 1 r145_0 r145_1 r145_2 v_nextCount_3 v_stackCount_3 v_nextAt_3 v_nextCells_3 v_seen_3 v_waits_3 g142 v_stack_3 v_kept_3 (by omega) (by omega)
            refine ⟨fun c122 => ?_, fun c122 => ?_⟩
            · have f21 : p2.toInt = 0 := i_eq (a := p2.toInt) (b := 0) rfl rfl c122
              exact j_136  (by omega)
            · have f22 : p2.toInt ≠ 0 := i_ne (a := p2.toInt) (b := 0) rfl rfl c122
              refine ⟨fun c133 => ?_, fun c133 => ?_⟩
              · have f23 : p1.toInt ≠ v_subject_count.toInt := i_ne (a := p1.toInt) (b := v_subject_count.toInt) rfl rfl c133
                exact j_150 v_nextCount_3 v_stackCount_3 v_nextAt_3 v_nextCells_3 v_seen_3 v_waits_3 g45 v_stack_3 v_kept_3 (by omega) (by omega)
              · have f24 : p1.toInt = v_subject_count.toInt := i_eq (a := p1.toInt) (b := v_subject_count.toInt) rfl rfl c133
                exact j_136  (by omega)
          · have f25 : r54.toInt ≠ 6 := i_ne (a := r54.toInt) (b := 6) rfl rfl c59
            refine ⟨fun c70 => ?_, fun c70 => ?_⟩
            · have f26 : v_subject_count.toInt ≤ p1.toInt := i_le (a := v_subject_count.toInt) (b := p1.toInt) rfl rfl c70
              exact j_150 v_nextCount_3 v_stackCount_3 v_nextAt_3 v_nextCells_3 v_seen_3 v_waits_3 g45 v_stack_3 v_kept_3 (by omega) (by omega)
            · have f27 : p1.toInt < v_subject_count.toInt := i_nle (a := v_subject_count.toInt) (b := p1.toInt) rfl rfl c70
              refine ok_X7_at (by omega) (by omega) (by omega) (fun r84 f28 => ?_)
              refine ok_X5_takes (by omega) (by omega) (by omega) (by omega) (by omega) (by omega) (fun r87 f29 f30 => ?_)
              refine ⟨fun c90 => ?_, fun c90 => ?_⟩
              · have f31 : r87.toInt = 0 := i_eq (a := r87.toInt) (b := 0) rfl rfl c90
                exact j_150 v_nextCount_3 v_stackCount_3 v_nextAt_3 v_nextCells_3 v_seen_3 v_waits_3 g45 v_stack_3 v_kept_3 (by omega) (by omega)
              · have f32 : r87.toInt ≠ 0 := i_ne (a := r87.toInt) (b := 0) rfl rfl c90
                refine ok_X5_nextOf (by omega) (by omega) (fun r100 f33 => ?_)
                refine ok_X5_otherOf (by omega) (by omega) (fun r109 f34 => ?_)
                intro x114 ex114
                have f35 : x114.toInt = p1.toInt + 1 := i_add (a := p1.toInt) (b := 1) ex114 rfl rfl (by have h8_1 := i_rng p1; have h8_2 := i_rng r84; have h8_3 := i_rng v_subject_count; omega) (by omega)
                refine ok_X3_spread (by omega) (by omega) (fun r115_0 r115_1 r115_2 r115_3 r115_4 r115_5 r115_6 r115_7 r115_8 f36 f37 f38 => ?_)
                exact j_150 r115_0 r115_1 r115_2 r115_3 r115_4 r115_5 r115_6 r115_7 r115_8 (by omega) (by omega)
  exact ⟨(256 : Int).toNat + 1, j_3   ((256 : Int).toNat + 1) 0 v_nextCount v_stackCount v_nextAt v_nextCells v_seen v_waits v_cells v_stack v_kept (by omega) (by omega) (by omega) (by omega)⟩
set_option maxHeartbeats 4000000 in
theorem ok_X3_goAlong_v1 {p1 : Int32} {p2 : Int32} {a3_count : Int32} {a3_over : Bool} {a3_items : Nat → Int32} {na3_items : Nat} {v_width : Int32} {v_nowCount : Int32} {v_nextCount : Int32} {v_stamp : Int32} {v_stackCount : Int32} {v_program_count : Int32} {v_program_kinds : Nat → Int32} {v_program_subjects : Nat → Int32} {v_program_nexts : Nat → Int32} {v_program_others : Nat → Int32} {v_edges : Nat → Bool} {v_nowAt : Nat → Int32} {v_nowCells : Nat → Int32} {v_seen : Nat → Int32} {v_waits : Nat → Int32} {v_cells : Nat → Int32} {v_stack : Nat → Int32} {v_kept : Nat → Int32} {v_program_tree_count : Int32} {v_program_tree_ranges : Int32} {v_program_tree_sort : Nat → Int32} {v_program_tree_value : Nat → Int32} {v_program_tree_low : Nat → Int32} {v_program_tree_high : Nat → Int32} {v_program_tree_withinCase : Nat → Bool} {v_program_tree_rangeBegin : Nat → Int32} {v_program_tree_rangeEnd : Nat → Int32} {Q : Int32 → Int32 → Bool → (Nat → Int32) → Int32 → Int32 → (Nat → Int32) → (Nat → Int32) → (Nat → Int32) → (Nat → Int32) → (Nat → Int32) → (Nat → Int32) → (Nat → Int32) → Prop} (a0 : 0 ≤ a3_count.toInt) (a1 : a3_count.toInt ≤ (na3_items : Int)) (a2 : (na3_items : Int) ≤ 1000) (a3 : 0 ≤ v_program_count.toInt) (a4 : v_program_count.toInt ≤ 512) (a5 : 0 ≤ v_program_tree_count.toInt) (a6 : v_program_tree_count.toInt ≤ 256) (a7 : 0 ≤ v_program_tree_ranges.toInt) (a8 : v_program_tree_ranges.toInt ≤ 512) (a9 : 0 ≤ p2.toInt) (a10 : p2.toInt ≤ 1) (hq : ∀ (r : Int32) (oa3_count : Int32) (oa3_over : Bool) (oa3_items : Nat → Int32) (ov_nextCount : Int32) (ov_stackCount : Int32) (ov_nowAt : Nat → Int32) (ov_nowCells : Nat → Int32) (ov_seen : Nat → Int32) (ov_waits : Nat → Int32) (ov_cells : Nat → Int32) (ov_stack : Nat → Int32) (ov_kept : Nat → Int32), v_nextCount.toInt ≤ ov_nextCount.toInt → ((r.toInt = 1 ∧ 0 ≤ oa3_count.toInt + 1 ∧ 0 ≤ oa3_count.toInt ∧ oa3_count.toInt ≤ 20 ∧ oa3_count.toInt ≤ 21 ∧ oa3_count.toInt ≤ (na3_items : Int)) ∨ (r.toInt = 0 ∧ oa3_count.toInt = a3_count.toInt ∧ (bz oa3_over).toInt = (bz a3_over).toInt)) → Q r oa3_count oa3_over oa3_items ov_nextCount ov_stackCount ov_nowAt ov_nowCells ov_seen ov_waits ov_cells ov_stack ov_kept) : w_X3_goAlong_v1 p1 p2 a3_count a3_over a3_items na3_items v_width v_nowCount v_nextCount v_stamp v_stackCount v_program_count v_program_kinds v_program_subjects v_program_nexts v_program_others v_edges v_nowAt v_nowCells v_seen v_waits v_cells v_stack v_kept v_program_tree_count v_program_tree_ranges v_program_tree_sort v_program_tree_value v_program_tree_low v_program_tree_high v_program_tree_withinCase v_program_tree_rangeBegin v_program_tree_rangeEnd Q := by
  have q_t : (bz true).toInt = 1 := rfl
  have q_f : (bz false).toInt = 0 := rfl
  have q_0 : (0 : Int32).toInt = 0 := rfl
  have q_1 : (1 : Int32).toInt = 1 := rfl
  unfold w_X3_goAlong_v1
  have j_3 : ∀ n_3 : Nat, ∀ (l4_3 : Int32) (v_nextCount_3 : Int32) (v_stackCount_3 : Int32) (v_nowAt_3 : Nat → Int32) (v_nowCells_3 : Nat → Int32) (v_seen_3 : Nat → Int32) (v_waits_3 : Nat → Int32) (v_cells_3 : Nat → Int32) (v_stack_3 : Nat → Int32) (v_kept_3 : Nat → Int32), 0 ≤ l4_3.toInt → l4_3.toInt ≤ 256 → v_nextCount.toInt ≤ v_nextCount_3.toInt → ((-1) * l4_3.toInt + 256).toNat < n_3 → w_X3_goAlong_v1_3 p1 p2 na3_items v_width v_nowCount v_stamp v_program_count v_program_kinds v_program_subjects v_program_nexts v_program_others v_edges v_program_tree_count v_program_tree_ranges v_program_tree_sort v_program_tree_value v_program_tree_low v_program_tree_high v_program_tree_withinCase v_program_tree_rangeBegin v_program_tree_rangeEnd Q a3_count a3_over a3_items n_3 l4_3 v_nextCount_3 v_stackCount_3 v_nowAt_3 v_nowCells_3 v_seen_3 v_waits_3 v_cells_3 v_stack_3 v_kept_3 := by
    intro n_3
    induction n_3 with
    | zero =>
      intro l4_3 v_nextCount_3 v_stackCount_3 v_nowAt_3 v_nowCells_3 v_seen_3 v_waits_3 v_cells_3 v_stack_3 v_kept_3 f1 f2 f3 hm_3
      exfalso; omega
    | succ n_3 ih_3 =>
      intro l4_3 v_nextCount_3 v_stackCount_3 v_nowAt_3 v_nowCells_3 v_seen_3 v_waits_3 v_cells_3 v_stack_3 v_kept_3 f1 f2 f3 hm_3
      unfold w_X3_goAlong_v1_3
      unfold w_X3_goAlong_v1_3B
      have j_156 : ((v_nowCount.toInt ≤ l4_3.toInt) ∨ (l4_3.toInt + 1 ≤ v_nowCount.toInt ∧ 256 ≤ l4_3.toInt)) → w_X3_goAlong_v1_156 Q a3_count a3_over a3_items v_nextCount_3 v_stackCount_3 v_nowAt_3 v_nowCells_3 v_seen_3 v_waits_3 v_cells_3 v_stack_3 v_kept_3 := by
        intro f4
        unfold w_X3_goAlong_v1_156
        exact hq 0 a3_count a3_over a3_items v_nextCount_3 v_stackCount_3 v_nowAt_3 v_nowCells_3 v_seen_3 v_waits_3 v_cells_3 v_stack_3 v_kept_3 (by omega) (by omega)
      refine ⟨fun c9 => ?_, fun c9 => ?_⟩
      · have f5 : v_nowCount.toInt ≤ l4_3.toInt := i_le (a := v_nowCount.toInt) (b := l4_3.toInt) rfl rfl c9
        exact j_156  (by omega)
      · have f6 : l4_3.toInt < v_nowCount.toInt := i_nle (a := v_nowCount.toInt) (b := l4_3.toInt) rfl rfl c9
        refine ⟨fun c17 => ?_, fun c17 => ?_⟩
        · have f7 : 256 ≤ l4_3.toInt := i_le (a := 256) (b := l4_3.toInt) rfl rfl c17
          exact j_156  (by omega)
        · have f8 : l4_3.toInt < 256 := i_nle (a := 256) (b := l4_3.toInt) rfl rfl c17
          refine ⟨i_in (by omega) (by omega), ?_⟩
          intro x26 ex26
          intro x37 ex37
          have f9 : x37.toInt = l4_3.toInt * 20 := i_mul (a := l4_3.toInt) (b := 20) ex37 rfl rfl (by omega) (by omega)
          refine ⟨(i_nn (a := x37.toInt) rfl (by omega)), (i_nn (a := 0) rfl (by omega)), (i_nn (a := 20) rfl (by omega)), i_cp (a := x37.toInt) (b := 20) rfl rfl (by omega) (by omega) (by omega), i_cp (a := 0) (b := 20) rfl rfl (by omega) (by omega) (by omega), ?_⟩
          intro g45 eg45
          refine ok_X5_kindOf (by omega) (by omega) (fun r54 f10 => ?_)
          have j_150 : ∀ (v_nextCount_150 : Int32) (v_stackCount_150 : Int32) (v_nowAt_150 : Nat → Int32) (v_nowCells_150 : Nat → Int32) (v_seen_150 : Nat → Int32) (v_waits_150 : Nat → Int32) (v_cells_150 : Nat → Int32) (v_stack_150 : Nat → Int32) (v_kept_150 : Nat → Int32), v_nextCount.toInt ≤ v_nextCount_150.toInt → v_nextCount_3.toInt ≤ v_nextCount_150.toInt → w_X3_goAlong_v1_150 Q (w_X3_goAlong_v1_3 p1 p2 na3_items v_width v_nowCount v_stamp v_program_count v_program_kinds v_program_subjects v_program_nexts v_program_others v_edges v_program_tree_count v_program_tree_ranges v_program_tree_sort v_program_tree_value v_program_tree_low v_program_tree_high v_program_tree_withinCase v_program_tree_rangeBegin v_program_tree_rangeEnd Q a3_count a3_over a3_items n_3) l4_3 v_nextCount_150 v_stackCount_150 v_nowAt_150 v_nowCells_150 v_seen_150 v_waits_150 v_cells_150 v_stack_150 v_kept_150 := by
            intro v_nextCount_150 v_stackCount_150 v_nowAt_150 v_nowCells_150 v_seen_150 v_waits_150 v_cells_150 v_stack_150 v_kept_150 f11 f12
            unfold w_X3_goAlong_v1_150
            intro x150 ex150
            have f13 : x150.toInt = l4_3.toInt + 1 := i_add (a := l4_3.toInt) (b := 1) ex150 rfl rfl (by omega) (by omega)
            exact ih_3 x150 v_nextCount_150 v_stackCount_150 v_nowAt_150 v_nowCells_150 v_seen_150 v_waits_150 v_cells_150 v_stack_150 v_kept_150 (by omega) (by omega) (by omega) (by have h8_0 := i_rng l4_3; have h8_1 := i_rng x150; omega)
          refine ⟨fun c59 => ?_, fun c59 => ?_⟩
          · have f14 : r54.toInt = 6 := i_eq (a := r54.toInt) (b := 6) rfl rfl c59
            have j_136 : ((p2.toInt = 0) ∨ (p1.toInt = a3_count.toInt)) → w_X3_goAlong_v1_136 p1 na3_items v_width Q a3_count a3_over a3_items v_nextCount_3 v_stackCount_3 v_nowAt_3 v_nowCells_3 v_seen_3 v_waits_3 g45 v_stack_3 v_kept_3 := by
              intro f15
              unfold w_X3_goAlong_v1_136
              intro g142 eg142
              refine ok_X3_tell (by omega) (fun r145_0 r145_1 r145_2 f16 f17 f18 f19 f20 => ?_)
              exact hq 1 r145_0 r145_1 r145_2 v_nextCount_3 v_stackCount_3 v_nowAt_3 v_nowCells_3 v_seen_3 v_waits_3 g142 v_stack_3 v_kept_3 (by omega) (by omega)
            refine ⟨fun c122 => ?_, fun c122 => ?_⟩
            · have f21 : p2.toInt = 0 := i_eq (a := p2.toInt) (b := 0) rfl rfl c122
              exact j_136  (by omega)
            · have f22 : p2.toInt ≠ 0 := i_ne (a := p2.toInt) (b := 0) rfl rfl c122
              refine ⟨fun c133 => ?_, fun c133 => ?_⟩
              · have f23 : p1.toInt ≠ a3_count.toInt := i_ne (a := p1.toInt) (b := a3_count.toInt) rfl rfl c133
                exact j_150 v_nextCount_3 v_stackCount_3 v_nowAt_3 v_nowCells_3 v_seen_3 v_waits_3 g45 v_stack_3 v_kept_3 (by omega) (by omega)
              · have f24 : p1.toInt = a3_count.toInt := i_eq (a := p1.toInt) (b := a3_count.toInt) rfl rfl c133
                exact j_136  (by omega)
          · have f25 : r54.toInt ≠ 6 := i_ne (a := r54.toInt) (b := 6) rfl rfl c59
            refine ⟨fun c70 => ?_, fun c70 => ?_⟩
            · have f26 : a3_count.toInt ≤ p1.toInt := i_le (a := a3_count.toInt) (b := p1.toInt) rfl rfl c70
              exact j_150 v_nextCount_3 v_stackCount_3 v_nowAt_3 v_nowCells_3 v_seen_3 v_waits_3 g45 v_stack_3 v_kept_3 (by omega) (by omega)
            · have f27 : p1.toInt < a3_count.toInt := i_nle (a := a3_count.toInt) (b := p1.toInt) rfl rfl c70
              refine ok_X7_at (by omega) (by omega) (by omega) (fun r84 f28 => ?_)
              refine ok_X5_takes (by omega) (by omega) (by omega) (by omega) (by omega) (by omega) (fun r87 f29 f30 => ?_)
              refine ⟨fun c90 => ?_, fun c90 => ?_⟩
              · have f31 : r87.toInt = 0 := i_eq (a := r87.toInt) (b := 0) rfl rfl c90
                exact j_150 v_nextCount_3 v_stackCount_3 v_nowAt_3 v_nowCells_3 v_seen_3 v_waits_3 g45 v_stack_3 v_kept_3 (by omega) (by omega)
              · have f32 : r87.toInt ≠ 0 := i_ne (a := r87.toInt) (b := 0) rfl rfl c90
                refine ok_X5_nextOf (by omega) (by omega) (fun r100 f33 => ?_)
                refine ok_X5_otherOf (by omega) (by omega) (fun r109 f34 => ?_)
                intro x114 ex114
                have f35 : x114.toInt = p1.toInt + 1 := i_add (a := p1.toInt) (b := 1) ex114 rfl rfl (by have h8_1 := i_rng a3_count; have h8_2 := i_rng p1; have h8_3 := i_rng r84; omega) (by omega)
                refine ok_X3_spread (by omega) (by omega) (fun r115_0 r115_1 r115_2 r115_3 r115_4 r115_5 r115_6 r115_7 r115_8 f36 f37 f38 => ?_)
                exact j_150 r115_0 r115_1 r115_2 r115_3 r115_4 r115_5 r115_6 r115_7 r115_8 (by omega) (by omega)
  exact ⟨(256 : Int).toNat + 1, j_3   ((256 : Int).toNat + 1) 0 v_nextCount v_stackCount v_nowAt v_nowCells v_seen v_waits v_cells v_stack v_kept (by omega) (by omega) (by omega) (by omega)⟩
