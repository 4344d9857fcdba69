set_option maxHeartbeats 4000000 in
theorem ok_X12_part {p1 : Int32} {p2 : Int32} {p3 : Int32} {p4 : Int32} {v_finding : Int32} {v_isThere : Nat → Bool} {v_many : Nat → Int32} {v_sort : Nat → Int32} {v_parts : Nat → Int32} {v_firstPart : Nat → Int32} {v_partBegin : Nat → Int32} {v_partEnd : Nat → Int32} {v_captures : Nat → Int32} {v_value : Nat → Int32} {v_least : Nat → Int32} {v_most : Nat → Int32} {v_holder : Nat → Int32} {v_end : Nat → Int32} {v_size : Nat → Int32} {v_positions : Nat → Int32} {Q : Int32 → Int32 → Int32 → Prop} (a0 : 0 ≤ p4.toInt) (a1 : p4.toInt ≤ 1) (u0 : zAll v_isThere v_many v_captures v_sort v_value v_least v_most v_holder v_parts v_end v_firstPart v_partBegin v_partEnd v_size v_positions) (hq : ∀ (r : Int32) (ov_thrown : Int32) (ov_finding : Int32), ov_thrown.toInt = 0 → Q r ov_thrown ov_finding) : w_X12_part p1 p2 p3 p4 v_finding v_isThere v_many v_sort v_parts v_firstPart v_partBegin v_partEnd Q := by
  have q_t : (bz true).toInt = 1 := rfl
  have q_f : (bz false).toInt = 0 := rfl
  have q_m4 : ((-4) : Int32).toInt = (-4) := rfl
  have q_m2 : ((-2) : Int32).toInt = (-2) := rfl
  have q_0 : (0 : Int32).toInt = 0 := rfl
  have q_1 : (1 : Int32).toInt = 1 := rfl
  unfold w_X12_part
  refine ok_X12_wrongSlot  (fun r7 r7_0 f1 f2 f3 u7_0 => ?_)
  refine ⟨fun c10 => ?_, fun c10 => ?_⟩
  · have f4 : r7.toInt = 0 := i_eq (a := r7.toInt) (b := 0) rfl rfl c10
    have hSM := zAll_s u0 (u7_0 (by omega)) (by omega) (by omega)
    have hS := hSM.1
    have hM := hSM.2
    have f5 : 1 ≤ (zg v_many p1.toInt : Int) := (zS_n hS).1
    have f6 : (zg v_many p1.toInt : Int) ≤ 220 := (zS_n hS).2
    have f7 : 0 ≤ (zg v_captures p1.toInt : Int) := (zS_c hS).1
    have f8 : (zg v_captures p1.toInt : Int) ≤ 9 := (zS_c hS).2
    refine ⟨i_in (by omega) (by omega), ?_⟩
    intro x23 ex23
    have f9 : x23.toInt = (zg v_many p1.toInt : Int) := zg_at ex23
    intro x25 ex25
    have f10 : x25.toInt = x23.toInt - 1 := i_sub (a := x23.toInt) (b := 1) ex25 rfl rfl (by omega) (by omega)
    refine ok_X12_in  (fun r26 f11 f12 f13 f14 f15 f16 => ?_)
    refine ⟨fun c29 => ?_, fun c29 => ?_⟩
    · have f17 : r26.toInt ≠ 0 := i_ne (a := r26.toInt) (b := 0) rfl rfl c29
      intro x39 ex39
      have f18 : x39.toInt = 220 * p1.toInt := i_mul (a := 220) (b := p1.toInt) ex39 rfl rfl (by omega) (by omega)
      intro x41 ex41
      have f19 : x41.toInt = x39.toInt + p2.toInt := i_add (a := x39.toInt) (b := p2.toInt) ex41 rfl rfl (by omega) (by omega)
      refine ⟨i_in (by omega) (by omega), ?_⟩
      intro x50 ex50
      have f20 : 0 ≤ x50.toInt ∧ x50.toInt ≤ 11 := by have h9 := zS_sort (k := (-220) * p1.toInt + x41.toInt) hS ex50 (by omega) (by omega) (by omega); omega
      refine ⟨fun c52 => ?_, fun c52 => ?_⟩
      · have f21 : x50.toInt = 2 := i_eq (a := x50.toInt) (b := 2) rfl rfl c52
        refine ⟨i_in (by omega) (by omega), ?_⟩
        intro x68 ex68
        have f22 : (0 ≤ x68.toInt ∧ x68.toInt ≤ 420) := zS_pa (k := p2.toInt) hS ex68 (by omega) (by omega) (by omega) (by rw [← zg_at2 ex50 (by omega)]; omega)
        intro x70 ex70
        have f23 : x70.toInt = x68.toInt - 1 := i_sub (a := x68.toInt) (b := 1) ex70 rfl rfl (by omega) (by omega)
        refine ok_X12_in  (fun r71 f24 f25 f26 f27 f28 f29 => ?_)
        refine ⟨fun c74 => ?_, fun c74 => ?_⟩
        · have f30 : r71.toInt ≠ 0 := i_ne (a := r71.toInt) (b := 0) rfl rfl c74
          have j_121 : ∀ (s0_121 : Int32), w_X12_part_121 Q s0_121 0 r7_0 := by
            intro s0_121
            unfold w_X12_part_121
            exact hq s0_121 0 r7_0 (by omega)
          refine ⟨fun c87 => ?_, fun c87 => ?_⟩
          · have f31 : p4.toInt = 0 := i_eq (a := p4.toInt) (b := 0) rfl rfl c87
            refine ⟨i_in (by omega) (by omega), ?_⟩
            intro x117 ex117
            have f32 : (420 * p1.toInt ≤ x117.toInt ∧ x117.toInt + x68.toInt ≤ 420 * p1.toInt + 420) := by have h9 := zS_fp (k := p2.toInt) hS ex117 ex68 (by omega) (by omega) (by omega) (by omega) (by rw [← zg_at2 ex50 (by omega)]; omega); omega
            intro x119 ex119
            have f33 : x119.toInt = x117.toInt + p3.toInt := i_add (a := x117.toInt) (b := p3.toInt) ex119 rfl rfl (by omega) (by omega)
            refine ⟨i_in (by omega) (by omega), ?_⟩
            intro x120 ex120
            exact j_121 x120 
          · have f34 : p4.toInt ≠ 0 := i_ne (a := p4.toInt) (b := 0) rfl rfl c87
            refine ⟨i_in (by omega) (by omega), ?_⟩
            intro x100 ex100
            have f35 : (420 * p1.toInt ≤ x100.toInt ∧ x100.toInt + x68.toInt ≤ 420 * p1.toInt + 420) := by have h9 := zS_fp (k := p2.toInt) hS ex100 ex68 (by omega) (by omega) (by omega) (by omega) (by rw [← zg_at2 ex50 (by omega)]; omega); omega
            intro x102 ex102
            have f36 : x102.toInt = x100.toInt + p3.toInt := i_add (a := x100.toInt) (b := p3.toInt) ex102 rfl rfl (by omega) (by omega)
            refine ⟨i_in (by omega) (by omega), ?_⟩
            intro x103 ex103
            exact j_121 x103 
        · have f37 : r71.toInt = 0 := i_eq (a := r71.toInt) (b := 0) rfl rfl c74
          exact hq (-4) 0 1 (by omega)
      · have f38 : x50.toInt ≠ 2 := i_ne (a := x50.toInt) (b := 2) rfl rfl c52
        refine ok_X12_otherSort  (fun r56 r56_0 f39 f40 => ?_)
        exact hq r56 0 r56_0 (by omega)
    · have f41 : r26.toInt = 0 := i_eq (a := r26.toInt) (b := 0) rfl rfl c29
      exact hq (-4) 0 r7_0 (by omega)
  · have f42 : r7.toInt ≠ 0 := i_ne (a := r7.toInt) (b := 0) rfl rfl c10
    exact hq (-2) 0 r7_0 (by omega)
set_option maxHeartbeats 4000000 in
theorem ok_X12_markBounds {p1 : Int32} {v_many : Nat → Int32} {v_sort : Nat → Int32} {v_value : Nat → Int32} {v_parts : Nat → Int32} {v_firstPart : Nat → Int32} {v_inCase : Nat → Bool} {v_partBegin : Nat → Int32} {v_partEnd : Nat → Int32} {v_isBound : Nat → Bool} {v_least : Nat → Int32} {v_most : Nat → Int32} {v_holder : Nat → Int32} {v_end : Nat → Int32} {v_captures : Nat → Int32} {gN9 : Nat} {Q : (Nat → Bool) → Prop} (a0 : 0 ≤ p1.toInt) (a1 : p1.toInt ≤ 5) (u0 : zSl v_sort v_value v_least v_most v_holder v_parts v_end v_firstPart v_partBegin v_partEnd (220 * p1.toInt) (420 * p1.toInt) (zg v_many p1.toInt) (zg v_captures p1.toInt)) (u1 : (gN9 : Int) = 65409) (hq : ∀ (ov_isBound : Nat → Bool), (zth gN9 ov_isBound ≤ zth gN9 v_isBound + 66) → Q ov_isBound) : w_X12_markBounds p1 v_many v_sort v_value v_parts v_firstPart v_inCase v_partBegin v_partEnd v_isBound Q := by
  have q_t : (bz true).toInt = 1 := rfl
  have q_f : (bz false).toInt = 0 := rfl
  have q_0 : (0 : Int32).toInt = 0 := rfl
  have q_65 : (65 : Int32).toInt = 65 := rfl
  unfold w_X12_markBounds
  have f1 : 1 ≤ (zg v_many p1.toInt : Int) := (zS_n u0).1
  have f2 : (zg v_many p1.toInt : Int) ≤ 220 := (zS_n u0).2
  have f3 : 0 ≤ (zg v_captures p1.toInt : Int) := (zS_c u0).1
  have f4 : (zg v_captures p1.toInt : Int) ≤ 9 := (zS_c u0).2
  have hN := u1
  have j_2 : ∀ n_2 : Nat, ∀ (l2_2 : Int32) (v_isBound_2 : Nat → Bool), 0 ≤ l2_2.toInt → l2_2.toInt ≤ 220 → (zth gN9 v_isBound_2 ≤ zth gN9 v_isBound + zsm (zvn v_sort v_value (220 * p1.toInt)) l2_2.toInt.toNat + zsm (zvr v_sort v_parts v_firstPart v_partBegin v_partEnd (220 * p1.toInt) (420 * p1.toInt)) l2_2.toInt.toNat) → (l2_2.toInt ≤ zg v_many p1.toInt) → ((-1) * l2_2.toInt + 220).toNat < n_2 → w_X12_markBounds_2 p1 v_many v_sort v_value v_parts v_firstPart v_inCase v_partBegin v_partEnd Q n_2 l2_2 v_isBound_2 := by
    intro n_2
    induction n_2 with
    | zero =>
      intro l2_2 v_isBound_2 f5 f6 u2_0 u2_1 hm_2
      exfalso; omega
    | succ n_2 ih_2 =>
      intro l2_2 v_isBound_2 f5 f6 u2_0 u2_1 hm_2
      unfold w_X12_markBounds_2
      unfold w_X12_markBounds_2B
      refine ⟨i_in (by omega) (by omega), ?_⟩
      intro x8 ex8
      have f7 : x8.toInt = (zg v_many p1.toInt : Int) := zg_at ex8
      refine ⟨fun c9 => ?_, fun c9 => ?_⟩
      · have f8 : x8.toInt ≤ l2_2.toInt := i_le (a := x8.toInt) (b := l2_2.toInt) rfl rfl c9
        exact hq v_isBound_2 (by exact zmb_e u2_0 u0 (by omega))
      · have f9 : l2_2.toInt < x8.toInt := i_nle (a := x8.toInt) (b := l2_2.toInt) rfl rfl c9
        intro x16 ex16
        have f10 : x16.toInt = 220 * p1.toInt := i_mul (a := 220) (b := p1.toInt) ex16 rfl rfl (by omega) (by omega)
        intro x18 ex18
        have f11 : x18.toInt = x16.toInt + l2_2.toInt := i_add (a := x16.toInt) (b := l2_2.toInt) ex18 rfl rfl (by omega) (by omega)
        refine ⟨i_in (by omega) (by omega), ?_⟩
        intro x25 ex25
        have f12 : 0 ≤ x25.toInt ∧ x25.toInt ≤ 11 := by have h9 := zS_sort (k := (-220) * p1.toInt + x18.toInt) u0 ex25 (by omega) (by omega) (by omega); omega
        have j_91 : ∀ (v_isBound_91 : Nat → Bool), (zth gN9 v_isBound_91 ≤ zth gN9 v_isBound_2 + zvn v_sort v_value (220 * p1.toInt) l2_2.toInt) → w_X12_markBounds_91 v_parts v_firstPart v_inCase v_partBegin v_partEnd Q (w_X12_markBounds_2 p1 v_many v_sort v_value v_parts v_firstPart v_inCase v_partBegin v_partEnd Q n_2) l2_2 x18 x25 v_isBound_91 := by
          intro v_isBound_91 u91_0
          unfold w_X12_markBounds_91
          have j_113 : ∀ (v_isBound_113 : Nat → Bool), (zth gN9 v_isBound_113 ≤ zth gN9 v_isBound_2 + zvn v_sort v_value (220 * p1.toInt) l2_2.toInt) → w_X12_markBounds_113 v_parts v_firstPart v_inCase v_partBegin v_partEnd Q (w_X12_markBounds_2 p1 v_many v_sort v_value v_parts v_firstPart v_inCase v_partBegin v_partEnd Q n_2) l2_2 x18 x25 v_isBound_113 := by
            intro v_isBound_113 u113_0
            unfold w_X12_markBounds_113
            refine ⟨i_in (by omega) (by omega), ?_⟩
            intro x118 ex118
            have f13 : ((x25.toInt ≠ 2) ∨ (420 * p1.toInt ≤ x118.toInt ∧ x118.toInt ≤ 420 * p1.toInt + 420)) := zS_fpo (k := l2_2.toInt) u0 ex25 ex118 (by omega) (by omega) (by omega) (by omega)
            have j_121 : ∀ n_121 : Nat, ∀ (l5_121 : Int32) (v_isBound_121 : Nat → Bool), x118.toInt ≤ l5_121.toInt → (zth gN9 v_isBound_121 ≤ zth gN9 v_isBound_113 + zml v_partBegin v_partEnd (420 * p1.toInt) l5_121.toInt x118.toInt) → ((x25.toInt ≠ 2 ∧ l5_121.toInt = x118.toInt) ∨ (x25.toInt = 2 ∧ l5_121.toInt ≤ x118.toInt + zg v_parts x18.toInt)) → ((-1) * l5_121.toInt + 2147483648).toNat < n_121 → w_X12_markBounds_121 v_parts v_firstPart v_inCase v_partBegin v_partEnd Q (w_X12_markBounds_2 p1 v_many v_sort v_value v_parts v_firstPart v_inCase v_partBegin v_partEnd Q n_2) l2_2 x18 x25 n_121 l5_121 v_isBound_121 := by
              intro n_121
              induction n_121 with
              | zero =>
                intro l5_121 v_isBound_121 f14 u121_0 u121_1 hm_121
                exfalso; omega
              | succ n_121 ih_121 =>
                intro l5_121 v_isBound_121 f14 u121_0 u121_1 hm_121
                unfold w_X12_markBounds_121
                unfold w_X12_markBounds_121B
                have j_179 : (zth gN9 v_isBound_121 ≤ zth gN9 v_isBound_113 + zvr v_sort v_parts v_firstPart v_partBegin v_partEnd (220 * p1.toInt) (420 * p1.toInt) l2_2.toInt) → w_X12_markBounds_179 v_inCase Q (w_X12_markBounds_2 p1 v_many v_sort v_value v_parts v_firstPart v_inCase v_partBegin v_partEnd Q n_2) l2_2 x18 x25 v_isBound_121 := by
                  intro u179_0
                  unfold w_X12_markBounds_179
                  have j_183 : ∀ n_183 : Nat, ∀ (l5_183 : Int32) (v_isBound_183 : Nat → Bool), 64 ≤ l5_183.toInt → l5_183.toInt ≤ 124 → (zth gN9 v_isBound_183 ≤ zth gN9 v_isBound_121) → ((-1) * l5_183.toInt + 124).toNat < n_183 → w_X12_markBounds_183 v_inCase Q (w_X12_markBounds_2 p1 v_many v_sort v_value v_parts v_firstPart v_inCase v_partBegin v_partEnd Q n_2) l2_2 x18 x25 n_183 l5_183 v_isBound_183 := by
                    intro n_183
                    induction n_183 with
                    | zero =>
                      intro l5_183 v_isBound_183 f15 f16 u183_0 hm_183
                      exfalso; omega
                    | succ n_183 ih_183 =>
                      intro l5_183 v_isBound_183 f15 f16 u183_0 hm_183
                      unfold w_X12_markBounds_183
                      unfold w_X12_markBounds_183B
                      have j_219 : w_X12_markBounds_219 Q (w_X12_markBounds_2 p1 v_many v_sort v_value v_parts v_firstPart v_inCase v_partBegin v_partEnd Q n_2) l2_2 v_isBound_183 := by
                        unfold w_X12_markBounds_219
                        intro x219 ex219
                        have f17 : x219.toInt = l2_2.toInt + 1 := i_add (a := l2_2.toInt) (b := 1) ex219 rfl rfl (by omega) (by omega)
                        exact ih_2 x219 v_isBound_183 (by omega) (by omega) (by first | exact zmb_s u2_0 u113_0 u179_0 u183_0 (by omega) (by omega) | exact zmb_0) (by omega) (by have h8_0 := i_rng l2_2; have h8_1 := i_rng x219; omega)
                      refine ⟨fun c186 => ?_, fun c186 => ?_⟩
                      · have f18 : x25.toInt ≠ 2 := i_ne (a := x25.toInt) (b := 2) rfl rfl c186
                        exact j_219  
                      · have f19 : x25.toInt = 2 := i_eq (a := x25.toInt) (b := 2) rfl rfl c186
                        refine ⟨i_in (by omega) (by omega), ?_⟩
                        intro x194 ex194
                        have f20 : (0 ≤ x194.toInt ∧ x194.toInt ≤ 1) := i_bz ex194
                        refine ⟨fun c195 => ?_, fun c195 => ?_⟩
                        · have f21 : x194.toInt = 0 := i_eq (a := x194.toInt) (b := 0) rfl rfl c195
                          exact j_219  
                        · have f22 : x194.toInt ≠ 0 := i_ne (a := x194.toInt) (b := 0) rfl rfl c195
                          refine ⟨fun c202 => ?_, fun c202 => ?_⟩
                          · have f23 : 124 ≤ l5_183.toInt := i_le (a := 124) (b := l5_183.toInt) rfl rfl c202
                            exact j_219  
                          · have f24 : l5_183.toInt < 124 := i_nle (a := 124) (b := l5_183.toInt) rfl rfl c202
                            refine ⟨i_in (by omega) (by omega), ?_⟩
                            intro g212 eg212
                            intro x213 ex213
                            have f25 : x213.toInt = l5_183.toInt + 1 := i_add (a := l5_183.toInt) (b := 1) ex213 rfl rfl (by omega) (by omega)
                            exact ih_183 x213 g212 (by omega) (by omega) (by first | omega | (have h9 := zmk_low hN eg212 (by omega); omega)) (by have h8_0 := i_rng l5_183; have h8_1 := i_rng x213; omega)
                  exact ⟨(59 : Int).toNat + 1, j_183   ((59 : Int).toNat + 1) 65 v_isBound_121 (by omega) (by omega) (by first | omega | (have h9 := zmk_low hN eg212 (by omega); omega)) (by omega)⟩
                refine ⟨fun c124 => ?_, fun c124 => ?_⟩
                · have f26 : x25.toInt ≠ 2 := i_ne (a := x25.toInt) (b := 2) rfl rfl c124
                  exact j_179  (by first | exact zml_x u121_0 u121_1 ex25 (by omega) (by omega) | exact zml_y u121_0 ex25 (by omega) (by omega) ex118 rfl (by have h9 := zg_at2 (k := x18.toInt) ex140 (by omega); omega))
                · have f27 : x25.toInt = 2 := i_eq (a := x25.toInt) (b := 2) rfl rfl c124
                  refine ⟨i_in (by omega) (by omega), ?_⟩
                  intro x134 ex134
                  have f28 : x134.toInt = x118.toInt := congrArg Int32.toInt (ex134.trans ex118.symm)
                  refine ⟨i_in (by omega) (by omega), ?_⟩
                  intro x140 ex140
                  have f29 : (420 * p1.toInt ≤ x134.toInt ∧ 0 ≤ x140.toInt ∧ x134.toInt + x140.toInt ≤ 420 * p1.toInt + 420) := zS_fp (k := l2_2.toInt) u0 ex134 ex140 (by omega) (by omega) (by omega) (by omega) (by rw [← zg_at ex25]; omega)
                  intro x141 ex141
                  have f30 : x141.toInt = x134.toInt + x140.toInt := i_add (a := x134.toInt) (b := x140.toInt) ex141 rfl rfl (by omega) (by omega)
                  refine ⟨fun c142 => ?_, fun c142 => ?_⟩
                  · have f31 : x141.toInt ≤ l5_121.toInt := i_le (a := x141.toInt) (b := l5_121.toInt) rfl rfl c142
                    exact j_179  (by first | exact zml_x u121_0 u121_1 ex25 (by omega) (by omega) | exact zml_y u121_0 ex25 (by omega) (by omega) ex118 rfl (by have h9 := zg_at2 (k := x18.toInt) ex140 (by omega); omega))
                  · have f32 : l5_121.toInt < x141.toInt := i_nle (a := x141.toInt) (b := l5_121.toInt) rfl rfl c142
                    refine ⟨i_in (by omega) (by omega), ?_⟩
                    intro x155 ex155
                    have f33 : (0 ≤ x155.toInt ∧ x155.toInt ≤ 65535) := (zS_pb (v := x155) (w := l5_121) (k := l2_2.toInt) u0 ex134 ex140 (by rw [← zg_at2 ex25 (by omega)]; omega) (by omega) (by omega) (by omega) (by omega) (by omega) (by omega)).1 ex155
                    refine ⟨i_in (by omega) (by omega), ?_⟩
                    intro g157 eg157
                    refine ⟨i_in (by omega) (by omega), ?_⟩
                    intro x168 ex168
                    have f34 : (0 ≤ x168.toInt ∧ x168.toInt ≤ 65535) := (zS_pb (v := x168) (w := l5_121) (k := l2_2.toInt) u0 ex134 ex140 (by rw [← zg_at2 ex25 (by omega)]; omega) (by omega) (by omega) (by omega) (by omega) (by omega) (by omega)).2 ex168
                    intro x170 ex170
                    have f35 : x170.toInt = x168.toInt + 1 := i_add (a := x168.toInt) (b := 1) ex170 rfl rfl (by omega) (by omega)
                    refine ⟨i_in (by omega) (by omega), ?_⟩
                    intro g172 eg172
                    intro x173 ex173
                    have f36 : x173.toInt = l5_121.toInt + 1 := i_add (a := l5_121.toInt) (b := 1) ex173 rfl rfl (by omega) (by omega)
                    exact ih_121 x173 g172 (by omega) (by first | exact zml_n u121_0 ex155 ex168 (zmk_part hN eg157 eg172 (pb := x155.toInt) (pe := x168.toInt) (by omega) (by omega)) rfl (by omega) (by omega) | exact zml_z rfl) (by first | exact Or.inr ⟨by omega, by have h9 := zg_at2 (k := x18.toInt) ex140 (by omega); omega⟩ | exact zml_i (k := l2_2.toInt) u0 ex25 (by omega) (by omega) (by omega) rfl) (by have h8_0 := i_rng l5_121; have h8_1 := i_rng x173; omega)
            exact ⟨((-1) * x118.toInt + 2147483648).toNat + 1, j_121   (((-1) * x118.toInt + 2147483648).toNat + 1) x118 v_isBound_113 (by omega) (by first | exact zml_n u121_0 ex155 ex168 (zmk_part hN eg157 eg172 (pb := x155.toInt) (pe := x168.toInt) (by omega) (by omega)) rfl (by omega) (by omega) | exact zml_z rfl) (by first | exact Or.inr ⟨by omega, by have h9 := zg_at2 (k := x18.toInt) ex140 (by omega); omega⟩ | exact zml_i (k := l2_2.toInt) u0 ex25 (by omega) (by omega) (by omega) rfl) (by omega)⟩
          refine ⟨fun c94 => ?_, fun c94 => ?_⟩
          · have f37 : x25.toInt ≠ 1 := i_ne (a := x25.toInt) (b := 1) rfl rfl c94
            exact j_113 v_isBound_91 (by first | omega | (have h9 := zmk_low hN eg104 (by decide); have h8 := zmk_low hN eg112 (by decide); omega))
          · have f38 : x25.toInt = 1 := i_eq (a := x25.toInt) (b := 1) rfl rfl c94
            intro g104 eg104
            intro g112 eg112
            exact j_113 g112 (by first | omega | (have h9 := zmk_low hN eg104 (by decide); have h8 := zmk_low hN eg112 (by decide); omega))
        refine ⟨fun c30 => ?_, fun c30 => ?_⟩
        · have f39 : x25.toInt ≠ 0 := i_ne (a := x25.toInt) (b := 0) rfl rfl c30
          exact j_91 v_isBound_2 (by first | exact zmk_sg (o2 := r84) hN ex25 ex42 ex54 ex68 ex83 eg44 eg58 eg73 eg90 (by decide) (by omega) (by omega) (by omega) (by omega) (by omega) (by omega) (by omega) (by omega) (by omega) (fun _ => by omega) | (have h9 := zvn_nn v_sort v_value (220 * p1.toInt) l2_2.toInt; omega))
        · have f40 : x25.toInt = 0 := i_eq (a := x25.toInt) (b := 0) rfl rfl c30
          refine ⟨i_in (by omega) (by omega), ?_⟩
          intro x42 ex42
          have f41 : 0 ≤ x42.toInt ∧ x42.toInt ≤ 65535 := by have h9 := zS_value (k := (-220) * p1.toInt + x18.toInt) u0 ex42 (by omega) (by omega) (by omega); omega
          refine ⟨i_in (by omega) (by omega), ?_⟩
          intro g44 eg44
          refine ⟨i_in (by omega) (by omega), ?_⟩
          intro x54 ex54
          have f42 : x54.toInt = x42.toInt := congrArg Int32.toInt (ex54.trans ex42.symm)
          have f43 : 0 ≤ x54.toInt ∧ x54.toInt ≤ 65535 := by have h9 := zS_value (k := (-220) * p1.toInt + x18.toInt) u0 ex54 (by omega) (by omega) (by omega); omega
          intro x56 ex56
          have f44 : x56.toInt = x54.toInt + 1 := i_add (a := x54.toInt) (b := 1) ex56 rfl rfl (by omega) (by omega)
          refine ⟨i_in (by omega) (by omega), ?_⟩
          intro g58 eg58
          refine ⟨i_in (by omega) (by omega), ?_⟩
          intro x68 ex68
          have f45 : x68.toInt = x42.toInt := congrArg Int32.toInt (ex68.trans ex42.symm)
          have f46 : 0 ≤ x68.toInt ∧ x68.toInt ≤ 65535 := by have h9 := zS_value (k := (-220) * p1.toInt + x18.toInt) u0 ex68 (by omega) (by omega) (by omega); omega
          refine ok_X12_otherCase (by omega) (by omega) (fun r69 f47 f48 f49 f50 f51 f52 => ?_)
          refine ⟨i_in (by omega) (by omega), ?_⟩
          intro g73 eg73
          refine ⟨i_in (by omega) (by omega), ?_⟩
          intro x83 ex83
          have f53 : x83.toInt = x42.toInt := congrArg Int32.toInt (ex83.trans ex42.symm)
          have f54 : 0 ≤ x83.toInt ∧ x83.toInt ≤ 65535 := by have h9 := zS_value (k := (-220) * p1.toInt + x18.toInt) u0 ex83 (by omega) (by omega) (by omega); omega
          refine ok_X12_otherCase (by omega) (by omega) (fun r84 f55 f56 f57 f58 f59 f60 => ?_)
          intro x88 ex88
          have f61 : x88.toInt = r84.toInt + 1 := i_add (a := r84.toInt) (b := 1) ex88 rfl rfl (by omega) (by omega)
          refine ⟨i_in (by omega) (by omega), ?_⟩
          intro g90 eg90
          exact j_91 g90 (by first | exact zmk_sg (o2 := r84) hN ex25 ex42 ex54 ex68 ex83 eg44 eg58 eg73 eg90 (by decide) (by omega) (by omega) (by omega) (by omega) (by omega) (by omega) (by omega) (by omega) (by omega) (fun _ => by omega) | (have h9 := zvn_nn v_sort v_value (220 * p1.toInt) l2_2.toInt; omega))
  exact ⟨(220 : Int).toNat + 1, j_2   ((220 : Int).toNat + 1) 0 v_isBound (by omega) (by omega) (by first | exact zmb_s u2_0 u113_0 u179_0 u183_0 (by omega) (by omega) | exact zmb_0) (by omega) (by omega)⟩
set_option maxHeartbeats 4000000 in
theorem ok_X12_findBounds {v_isBound : Nat → Bool} {v_bounds : Nat → Int32} {gN9 : Nat} {Q : Int32 → (Nat → Bool) → (Nat → Int32) → Prop} (u0 : (gN9 : Int) = 65409) (u1 : zth gN9 v_isBound ≤ 132) (hq : ∀ (ov_boundMany : Int32) (ov_isBound : Nat → Bool) (ov_bounds : Nat → Int32), 0 ≤ ov_boundMany.toInt + 1 → 0 ≤ ov_boundMany.toInt → ov_boundMany.toInt ≤ 65535 → ov_boundMany.toInt ≤ 65536 → ov_boundMany.toInt ≤ 65537 → ov_boundMany.toInt ≤ 3000 → ov_boundMany.toInt ≤ 260 → 1 ≤ ov_boundMany.toInt → rp (fun k v => 0 ≤ v ∧ v ≤ 65535) ov_bounds 0 ov_boundMany.toInt → (zNo ov_isBound) → (zg ov_bounds 0 = 0) → Q ov_boundMany ov_isBound ov_bounds) : w_X12_findBounds v_isBound v_bounds Q := by
  have q_t : (bz true).toInt = 1 := rfl
  have q_f : (bz false).toInt = 0 := rfl
  have q_0 : (0 : Int32).toInt = 0 := rfl
  unfold w_X12_findBounds
  intro g11 eg11
  have h00 : g11 0 = true := by
    subst eg11; rfl
  have j_14 : ∀ n_14 : Nat, ∀ (l1_14 : Int32) (v_boundMany_14 : Int32) (v_isBound_14 : Nat → Bool) (v_bounds_14 : Nat → Int32), l1_14.toInt ≤ 65536 → v_boundMany_14.toInt ≤ l1_14.toInt → v_boundMany_14.toInt ≤ 3000 → 0 ≤ v_boundMany_14.toInt → rp (fun k v => 0 ≤ v ∧ v ≤ 65535) v_bounds_14 0 v_boundMany_14.toInt → (zFB g11 v_isBound_14 v_bounds_14 l1_14.toInt v_boundMany_14.toInt) → ((-1) * l1_14.toInt + 65536).toNat < n_14 → w_X12_findBounds_14 Q n_14 l1_14 v_boundMany_14 v_isBound_14 v_bounds_14 := by
    intro n_14
    induction n_14 with
    | zero =>
      intro l1_14 v_boundMany_14 v_isBound_14 v_bounds_14 f1 f2 f3 f4 h5 u14_0 hm_14
      exfalso; omega
    | succ n_14 ih_14 =>
      intro l1_14 v_boundMany_14 v_isBound_14 v_bounds_14 f1 f2 f3 f4 h5 u14_0 hm_14
      unfold w_X12_findBounds_14
      unfold w_X12_findBounds_14B
      refine ⟨fun c18 => ?_, fun c18 => ?_⟩
      · have f6 : 65536 ≤ l1_14.toInt := i_le (a := 65536) (b := l1_14.toInt) rfl rfl c18
        have f7 : v_boundMany_14.toInt ≤ 260 := by have h9 := zFB_le u14_0 u0 eg11 rfl u1 (by omega); omega
        have f8 : 1 ≤ v_boundMany_14.toInt := by have h9 := (u14_0.2.2.2 (by omega)).2; omega
        intro g71 eg71
        exact hq v_boundMany_14 g71 v_bounds_14 (by omega) (by omega) (by omega) (by omega) (by omega) (by omega) (by omega) (by omega) (rp_mono h5 (by omega) (by omega)) (by exact zFB_no u14_0 (by omega) eg71 rfl (by decide)) (by exact (u14_0.2.2.2 (by omega)).1)
      · have f9 : l1_14.toInt < 65536 := i_nle (a := 65536) (b := l1_14.toInt) rfl rfl c18
        refine ⟨i_in (by omega) (by omega), ?_⟩
        intro x26 ex26
        have f10 : (0 ≤ x26.toInt ∧ x26.toInt ≤ 1) := i_bz ex26
        have j_50 : ∀ (v_boundMany_50 : Int32) (v_bounds_50 : Nat → Int32), v_boundMany_14.toInt ≤ v_boundMany_50.toInt → v_boundMany_50.toInt ≤ v_boundMany_14.toInt + 1 → v_boundMany_50.toInt ≤ 3000 → ((v_boundMany_50.toInt = v_boundMany_14.toInt ∧ x26.toInt = 0) ∨ (v_boundMany_14.toInt ≤ 260 ∧ v_boundMany_50.toInt = v_boundMany_14.toInt + 1)) → rp (fun k v => 0 ≤ v ∧ v ≤ 65535) v_bounds_50 0 v_boundMany_14.toInt → rp (fun k v => 0 ≤ v ∧ v ≤ 65535) v_bounds_50 0 v_boundMany_50.toInt → (zFC g11 v_isBound_14 v_bounds_50 l1_14.toInt v_boundMany_50.toInt) → w_X12_findBounds_50 Q (w_X12_findBounds_14 Q n_14) l1_14 v_boundMany_50 v_isBound_14 v_bounds_50 := by
          intro v_boundMany_50 v_bounds_50 f11 f12 f13 f14 h15 h16 u50_0
          unfold w_X12_findBounds_50
          refine ⟨i_in (by omega) (by omega), ?_⟩
          intro g56 eg56
          intro x57 ex57
          have f17 : x57.toInt = l1_14.toInt + 1 := i_add (a := l1_14.toInt) (b := 1) ex57 rfl rfl (by omega) (by omega)
          exact ih_14 x57 v_boundMany_50 g56 v_bounds_50 (by omega) (by omega) (by omega) (by omega) (rp_mono h16 (by omega) (by omega)) (by first | exact zFB_s u50_0 eg56 (by decide) (by omega) (by omega) | exact zFB_0) (by have h8_0 := i_rng l1_14; have h8_1 := i_rng x57; omega)
        refine ⟨fun c27 => ?_, fun c27 => ?_⟩
        · have f18 : x26.toInt = 0 := i_eq (a := x26.toInt) (b := 0) rfl rfl c27
          exact j_50 v_boundMany_14 v_bounds_14 (by omega) (by omega) (by omega) (by omega) (rp_mono h5 (by omega) (by omega)) (rp_mono h5 (by omega) (by omega)) (by first | exact zFC_y u14_0 ex26 (by omega) eg39 (by omega) (by omega) (by omega) | exact zFC_n u14_0 h00 ex26 (by omega) (by omega))
        · have f19 : x26.toInt ≠ 0 := i_ne (a := x26.toInt) (b := 0) rfl rfl c27
          have f20 : v_boundMany_14.toInt ≤ 260 := by have h9 := zFB_le u14_0 u0 eg11 rfl u1 (by omega); omega
          refine ⟨i_in (by omega) (by omega), ?_⟩
          intro g39 eg39
          have h21 : rp (fun k v => 0 ≤ v ∧ v ≤ 65535) g39 0 (v_boundMany_14.toInt + 1) := rp_ext (P := (fun k v => 0 ≤ v ∧ v ≤ 65535)) (a := v_boundMany_14.toInt) (b := l1_14.toInt) h5 eg39 rfl rfl (by omega) (by omega) ⟨(by omega), (by omega)⟩
          intro x46 ex46
          have f22 : x46.toInt = v_boundMany_14.toInt + 1 := i_add (a := v_boundMany_14.toInt) (b := 1) ex46 rfl rfl (by omega) (by omega)
          exact j_50 x46 g39 (by omega) (by omega) (by omega) (by omega) (rp_mono h21 (by omega) (by omega)) (rp_mono h21 (by omega) (by omega)) (by first | exact zFC_y u14_0 ex26 (by omega) eg39 (by omega) (by omega) (by omega) | exact zFC_n u14_0 h00 ex26 (by omega) (by omega))
  exact ⟨(65536 : Int).toNat + 1, j_14   ((65536 : Int).toNat + 1) 0 0 g11 v_bounds (by omega) (by omega) (by omega) (by omega) (rp_nil (by omega)) (by first | exact zFB_s u50_0 eg56 (by decide) (by omega) (by omega) | exact zFB_0) (by omega)⟩
set_option maxHeartbeats 4000000 in
theorem ok_X12_risky {p1 : Int32} {v_finding : Int32} {v_boundMany : Int32} {v_isThere : Nat → Bool} {v_many : Nat → Int32} {v_sort : Nat → Int32} {v_value : Nat → Int32} {v_most : Nat → Int32} {v_parts : Nat → Int32} {v_end : Nat → Int32} {v_firstPart : Nat → Int32} {v_mayEmpty : Nat → Bool} {v_inCase : Nat → Bool} {v_partBegin : Nat → Int32} {v_partEnd : Nat → Int32} {v_begun : Nat → Bool} {v_isBound : Nat → Bool} {v_bounds : Nat → Int32} {v_isRisky : Nat → Bool} {v_captures : Nat → Int32} {v_least : Nat → Int32} {v_holder : Nat → Int32} {v_size : Nat → Int32} {v_positions : Nat → Int32} {Q : Int32 → Int32 → Int32 → Int32 → (Nat → Bool) → (Nat → Bool) → (Nat → Int32) → (Nat → Bool) → Prop} (a0 : 0 ≤ v_boundMany.toInt) (a1 : v_boundMany.toInt ≤ 3000) (b0 : rp (fun k v => 0 ≤ v ∧ v ≤ 65535) v_bounds 0 v_boundMany.toInt) (u0 : zAll v_isThere v_many v_captures v_sort v_value v_least v_most v_holder v_parts v_end v_firstPart v_partBegin v_partEnd v_size v_positions) (u1 : zNo v_isBound) (hq : ∀ (r : Int32) (ov_thrown : Int32) (ov_finding : Int32) (ov_boundMany : Int32) (ov_begun : Nat → Bool) (ov_isBound : Nat → Bool) (ov_bounds : Nat → Int32) (ov_isRisky : Nat → Bool), ov_thrown.toInt = 0 → 0 ≤ r.toInt + 2 → r.toInt ≤ 219 → 0 ≤ ov_boundMany.toInt → ov_boundMany.toInt ≤ 3000 → rp (fun k v => 0 ≤ v ∧ v ≤ 65535) ov_bounds 0 ov_boundMany.toInt → rp (fun k v => 0 ≤ v ∧ v ≤ 65535) ov_bounds (r.toInt + 2) ov_boundMany.toInt → rp (fun k v => 0 ≤ v ∧ v ≤ 65535) ov_bounds ov_thrown.toInt ov_boundMany.toInt → (zNo ov_isBound) → Q r ov_thrown ov_finding ov_boundMany ov_begun ov_isBound ov_bounds ov_isRisky) : w_X12_risky p1 v_finding v_boundMany v_isThere v_many v_sort v_value v_most v_parts v_end v_firstPart v_mayEmpty v_inCase v_partBegin v_partEnd v_begun v_isBound v_bounds v_isRisky Q := by
  have q_t : (bz true).toInt = 1 := rfl
  have q_f : (bz false).toInt = 0 := rfl
  have q_m2 : ((-2) : Int32).toInt = (-2) := rfl
  have q_m1 : ((-1) : Int32).toInt = (-1) := rfl
  have q_0 : (0 : Int32).toInt = 0 := rfl
  have q_1 : (1 : Int32).toInt = 1 := rfl
  unfold w_X12_risky
  refine ok_X12_wrongSlot  (fun r7 r7_0 f1 f2 f3 u7_0 => ?_)
  refine ⟨fun c10 => ?_, fun c10 => ?_⟩
  · have f4 : r7.toInt = 0 := i_eq (a := r7.toInt) (b := 0) rfl rfl c10
    have hSM := zAll_s u0 (u7_0 (by omega)) (by omega) (by omega)
    have hS := hSM.1
    have hM := hSM.2
    have f5 : 1 ≤ (zg v_many p1.toInt : Int) := (zS_n hS).1
    have f6 : (zg v_many p1.toInt : Int) ≤ 220 := (zS_n hS).2
    have f7 : 0 ≤ (zg v_captures p1.toInt : Int) := (zS_c hS).1
    have f8 : (zg v_captures p1.toInt : Int) ≤ 9 := (zS_c hS).2
    obtain ⟨N9, hN9⟩ : ∃ N9 : Nat, (N9 : Int) = 65409 := ⟨65409, rfl⟩
    intro x20 ex20
    have f9 : x20.toInt = 220 * p1.toInt := i_mul (a := 220) (b := p1.toInt) ex20 rfl rfl (by omega) (by omega)
    have j_24 : ∀ n_24 : Nat, ∀ (l3_24 : Int32) (v_isRisky_24 : Nat → Bool), 0 ≤ l3_24.toInt → ((-1) * l3_24.toInt + 2147483648).toNat < n_24 → w_X12_risky_24 p1 v_many v_sort v_value v_most v_parts v_end v_firstPart v_mayEmpty v_inCase v_partBegin v_partEnd Q x20 0 r7_0 v_boundMany v_begun v_isBound v_bounds n_24 l3_24 v_isRisky_24 := by
      intro n_24
      induction n_24 with
      | zero =>
        intro l3_24 v_isRisky_24 f10 hm_24
        exfalso; omega
      | succ n_24 ih_24 =>
        intro l3_24 v_isRisky_24 f10 hm_24
        unfold w_X12_risky_24
        unfold w_X12_risky_24B
        refine ⟨i_in (by omega) (by omega), ?_⟩
        intro x30 ex30
        have f11 : x30.toInt = (zg v_many p1.toInt : Int) := zg_at ex30
        refine ⟨fun c31 => ?_, fun c31 => ?_⟩
        · have f12 : x30.toInt ≤ l3_24.toInt := i_le (a := x30.toInt) (b := l3_24.toInt) rfl rfl c31
          refine ok_X12_markBounds (v_least := v_least) (v_most := v_most) (v_holder := v_holder) (v_end := v_end) (v_captures := v_captures) (gN9 := N9) (by omega) (by omega) (by exact hS) (by exact hN9) (fun r49_0 u49_0 => ?_)
          refine ok_X12_findBounds (gN9 := N9) (by exact hN9) (by have h9 := zNo_th hN9 u1; omega) (fun r53_0 r53_1 r53_2 f13 f14 f15 f16 f17 f18 f19 f20 h21 u53_0 u53_1 => ?_)
          have j_58 : ∀ n_58 : Nat, ∀ (l3_58 : Int32) (v_begun_58 : Nat → Bool) (v_isRisky_58 : Nat → Bool), 0 ≤ l3_58.toInt → l3_58.toInt ≤ r53_0.toInt → ((-1) * l3_58.toInt + 2147483648).toNat < n_58 → w_X12_risky_58 p1 v_many v_sort v_value v_most v_parts v_end v_firstPart v_mayEmpty v_inCase v_partBegin v_partEnd Q x20 0 r7_0 r53_0 r53_1 r53_2 n_58 l3_58 v_begun_58 v_isRisky_58 := by
            intro n_58
            induction n_58 with
            | zero =>
              intro l3_58 v_begun_58 v_isRisky_58 f22 f23 hm_58
              exfalso; omega
            | succ n_58 ih_58 =>
              intro l3_58 v_begun_58 v_isRisky_58 f22 f23 hm_58
              unfold w_X12_risky_58
              unfold w_X12_risky_58B
              refine ⟨fun c63 => ?_, fun c63 => ?_⟩
              · have f24 : r53_0.toInt ≤ l3_58.toInt := i_le (a := r53_0.toInt) (b := l3_58.toInt) rfl rfl c63
                have j_211 : ∀ n_211 : Nat, ∀ (l3_211 : Int32), 0 ≤ l3_211.toInt → ((-1) * l3_211.toInt + 2147483648).toNat < n_211 → w_X12_risky_211 p1 v_many Q 0 r7_0 r53_0 v_begun_58 r53_1 r53_2 v_isRisky_58 n_211 l3_211 := by
                  intro n_211
                  induction n_211 with
                  | zero =>
                    intro l3_211 f25 hm_211
                    exfalso; omega
                  | succ n_211 ih_211 =>
                    intro l3_211 f25 hm_211
                    unfold w_X12_risky_211
                    unfold w_X12_risky_211B
                    refine ⟨i_in (by omega) (by omega), ?_⟩
                    intro x217 ex217
                    have f26 : x217.toInt = x30.toInt := congrArg Int32.toInt (ex217.trans ex30.symm)
                    have f27 : x217.toInt = (zg v_many p1.toInt : Int) := zg_at ex217
                    refine ⟨fun c218 => ?_, fun c218 => ?_⟩
                    · have f28 : x217.toInt ≤ l3_211.toInt := i_le (a := x217.toInt) (b := l3_211.toInt) rfl rfl c218
                      exact hq (-1) 0 r7_0 r53_0 v_begun_58 r53_1 r53_2 v_isRisky_58 (by omega) (by omega) (by omega) (by omega) (by omega) (rp_mono h21 (by omega) (by omega)) (rp_mono h21 (by omega) (by omega)) (rp_mono h21 (by omega) (by omega)) (by exact u53_0)
                    · have f29 : l3_211.toInt < x217.toInt := i_nle (a := x217.toInt) (b := l3_211.toInt) rfl rfl c218
                      refine ⟨i_in (by omega) (by omega), ?_⟩
                      intro x226 ex226
                      have f30 : (0 ≤ x226.toInt ∧ x226.toInt ≤ 1) := i_bz ex226
                      refine ⟨fun c227 => ?_, fun c227 => ?_⟩
                      · have f31 : x226.toInt = 0 := i_eq (a := x226.toInt) (b := 0) rfl rfl c227
                        intro x232 ex232
                        have f32 : x232.toInt = l3_211.toInt + 1 := i_add (a := l3_211.toInt) (b := 1) ex232 rfl rfl (by omega) (by omega)
                        exact ih_211 x232 (by omega) (by have h8_0 := i_rng l3_211; have h8_1 := i_rng x232; omega)
                      · have f33 : x226.toInt ≠ 0 := i_ne (a := x226.toInt) (b := 0) rfl rfl c227
                        exact hq l3_211 0 r7_0 r53_0 v_begun_58 r53_1 r53_2 v_isRisky_58 (by omega) (by omega) (by omega) (by omega) (by omega) (rp_mono h21 (by omega) (by omega)) (rp_mono h21 (by omega) (by omega)) (rp_mono h21 (by omega) (by omega)) (by exact u53_0)
                exact ⟨(2147483648 : Int).toNat + 1, j_211   ((2147483648 : Int).toNat + 1) 0 (by omega) (by omega)⟩
              · have f34 : l3_58.toInt < r53_0.toInt := i_nle (a := r53_0.toInt) (b := l3_58.toInt) rfl rfl c63
                refine ⟨i_in (by omega) (by omega), ?_⟩
                intro x73 ex73
                have f35 : 0 ≤ x73.toInt ∧ x73.toInt ≤ 65535 := by have h9 := rp_get (P := (fun k v => 0 ≤ v ∧ v ≤ 65535)) (a := l3_58.toInt) h21 ex73 rfl (by omega) (by omega) (by omega); omega
                refine ok_X12_findBegun (v_least := v_least) (v_holder := v_holder) (v_captures := v_captures) (by omega) (by omega) (by omega) (by omega) (by exact hS) (fun r74_0 => ?_)
                have j_80 : ∀ n_80 : Nat, ∀ (l4_80 : Int32) (v_isRisky_80 : Nat → Bool), 0 ≤ l4_80.toInt → ((-1) * l4_80.toInt + 2147483648).toNat < n_80 → w_X12_risky_80 p1 v_many v_sort v_most v_end x20 Q (w_X12_risky_58 p1 v_many v_sort v_value v_most v_parts v_end v_firstPart v_mayEmpty v_inCase v_partBegin v_partEnd Q x20 0 r7_0 r53_0 r53_1 r53_2 n_58) l3_58 r74_0 n_80 l4_80 v_isRisky_80 := by
                  intro n_80
                  induction n_80 with
                  | zero =>
                    intro l4_80 v_isRisky_80 f36 hm_80
                    exfalso; omega
                  | succ n_80 ih_80 =>
                    intro l4_80 v_isRisky_80 f36 hm_80
                    unfold w_X12_risky_80
                    unfold w_X12_risky_80B
                    refine ⟨i_in (by omega) (by omega), ?_⟩
                    intro x87 ex87
                    have f37 : x87.toInt = x30.toInt := congrArg Int32.toInt (ex87.trans ex30.symm)
                    have f38 : x87.toInt = (zg v_many p1.toInt : Int) := zg_at ex87
                    refine ⟨fun c88 => ?_, fun c88 => ?_⟩
                    · have f39 : x87.toInt ≤ l4_80.toInt := i_le (a := x87.toInt) (b := l4_80.toInt) rfl rfl c88
                      intro x203 ex203
                      have f40 : x203.toInt = l3_58.toInt + 1 := i_add (a := l3_58.toInt) (b := 1) ex203 rfl rfl (by omega) (by omega)
                      exact ih_58 x203 r74_0 v_isRisky_80 (by omega) (by omega) (by have h8_0 := i_rng l3_58; have h8_1 := i_rng x203; omega)
                    · have f41 : l4_80.toInt < x87.toInt := i_nle (a := x87.toInt) (b := l4_80.toInt) rfl rfl c88
                      intro x95 ex95
                      have f42 : x95.toInt = x20.toInt + l4_80.toInt := i_add (a := x20.toInt) (b := l4_80.toInt) ex95 rfl rfl (by omega) (by omega)
                      refine ok_X12_isEndless (v_value := v_value) (v_least := v_least) (v_holder := v_holder) (v_parts := v_parts) (v_end := v_end) (v_firstPart := v_firstPart) (v_partBegin := v_partBegin) (v_partEnd := v_partEnd) (gb9 := (220 * p1.toInt)) (gq9 := (420 * p1.toInt)) (gn9 := (zg v_many p1.toInt)) (gc9 := (zg v_captures p1.toInt)) (by exact hS) (by first | assumption | omega) (by first | assumption | omega) (by first | assumption | omega) (by first | assumption | omega) (fun r96 f43 f44 u96_0 => ?_)
                      have j_119 : ∀ (s0_119 : Int32), ((s0_119.toInt = 1 ∧ l4_80.toInt + 2 ≤ (zg v_many p1.toInt : Int)) ∨ (s0_119.toInt = 0)) → w_X12_risky_119 v_sort v_most v_end x20 r74_0 Q (w_X12_risky_58 p1 v_many v_sort v_value v_most v_parts v_end v_firstPart v_mayEmpty v_inCase v_partBegin v_partEnd Q x20 0 r7_0 r53_0 r53_1 r53_2 n_58) (w_X12_risky_80 p1 v_many v_sort v_most v_end x20 Q (w_X12_risky_58 p1 v_many v_sort v_value v_most v_parts v_end v_firstPart v_mayEmpty v_inCase v_partBegin v_partEnd Q x20 0 r7_0 r53_0 r53_1 r53_2 n_58) l3_58 r74_0 n_80) s0_119 l4_80 v_isRisky_80 := by
                        intro s0_119 f45
                        unfold w_X12_risky_119
                        intro x124 ex124
                        have f46 : x124.toInt = l4_80.toInt + 1 := i_add (a := l4_80.toInt) (b := 1) ex124 rfl rfl (by omega) (by omega)
                        have j_127 : ∀ n_127 : Nat, ∀ (l6_127 : Int32) (v_isRisky_127 : Nat → Bool), l6_127.toInt ≤ 220 → x124.toInt ≤ l6_127.toInt → ((-1) * l6_127.toInt + 2147483648).toNat < n_127 → w_X12_risky_127 v_sort v_most v_end x20 r74_0 Q (w_X12_risky_58 p1 v_many v_sort v_value v_most v_parts v_end v_firstPart v_mayEmpty v_inCase v_partBegin v_partEnd Q x20 0 r7_0 r53_0 r53_1 r53_2 n_58) (w_X12_risky_80 p1 v_many v_sort v_most v_end x20 Q (w_X12_risky_58 p1 v_many v_sort v_value v_most v_parts v_end v_firstPart v_mayEmpty v_inCase v_partBegin v_partEnd Q x20 0 r7_0 r53_0 r53_1 r53_2 n_58) l3_58 r74_0 n_80) l4_80 s0_119 n_127 l6_127 v_isRisky_127 := by
                          intro n_127
                          induction n_127 with
                          | zero =>
                            intro l6_127 v_isRisky_127 f47 f48 hm_127
                            exfalso; omega
                          | succ n_127 ih_127 =>
                            intro l6_127 v_isRisky_127 f47 f48 hm_127
                            unfold w_X12_risky_127
                            unfold w_X12_risky_127B
                            have j_197 : w_X12_risky_197 Q (w_X12_risky_58 p1 v_many v_sort v_value v_most v_parts v_end v_firstPart v_mayEmpty v_inCase v_partBegin v_partEnd Q x20 0 r7_0 r53_0 r53_1 r53_2 n_58) (w_X12_risky_80 p1 v_many v_sort v_most v_end x20 Q (w_X12_risky_58 p1 v_many v_sort v_value v_most v_parts v_end v_firstPart v_mayEmpty v_inCase v_partBegin v_partEnd Q x20 0 r7_0 r53_0 r53_1 r53_2 n_58) l3_58 r74_0 n_80) l4_80 v_isRisky_127 := by
                              unfold w_X12_risky_197
                              intro x197 ex197
                              have f49 : x197.toInt = l4_80.toInt + 1 := i_add (a := l4_80.toInt) (b := 1) ex197 rfl rfl (by omega) (by omega)
                              exact ih_80 x197 v_isRisky_127 (by omega) (by have h8_0 := i_rng l4_80; have h8_1 := i_rng x197; omega)
                            refine ⟨fun c129 => ?_, fun c129 => ?_⟩
                            · have f50 : s0_119.toInt = 0 := i_eq (a := s0_119.toInt) (b := 0) rfl rfl c129
                              exact j_197  
                            · have f51 : s0_119.toInt ≠ 0 := i_ne (a := s0_119.toInt) (b := 0) rfl rfl c129
                              intro x141 ex141
                              have f52 : x141.toInt = x20.toInt + l4_80.toInt := i_add (a := x20.toInt) (b := l4_80.toInt) ex141 rfl rfl (by omega) (by omega)
                              refine ⟨i_in (by omega) (by omega), ?_⟩
                              intro x142 ex142
                              have f53 : x141.toInt + 1 ≤ 220 * p1.toInt + x142.toInt ∧ x142.toInt ≤ (zg v_many p1.toInt : Int) := by have h9 := zS_end (k := (-220) * p1.toInt + x141.toInt) hS ex142 (by omega) (by omega) (by omega); omega
                              refine ⟨fun c143 => ?_, fun c143 => ?_⟩
                              · have f54 : x142.toInt ≤ l6_127.toInt := i_le (a := x142.toInt) (b := l6_127.toInt) rfl rfl c143
                                exact j_197  
                              · have f55 : l6_127.toInt < x142.toInt := i_nle (a := x142.toInt) (b := l6_127.toInt) rfl rfl c143
                                refine ⟨i_in (by omega) (by omega), ?_⟩
                                intro x158 ex158
                                have f56 : (0 ≤ x158.toInt ∧ x158.toInt ≤ 1) := i_bz ex158
                                have j_190 : ∀ (s0_190 : Int32), ((s0_190.toInt = 0 ∧ x158.toInt = 0) ∨ (s0_190.toInt = 1)) → w_X12_risky_190 Q (w_X12_risky_58 p1 v_many v_sort v_value v_most v_parts v_end v_firstPart v_mayEmpty v_inCase v_partBegin v_partEnd Q x20 0 r7_0 r53_0 r53_1 r53_2 n_58) (w_X12_risky_80 p1 v_many v_sort v_most v_end x20 Q (w_X12_risky_58 p1 v_many v_sort v_value v_most v_parts v_end v_firstPart v_mayEmpty v_inCase v_partBegin v_partEnd Q x20 0 r7_0 r53_0 r53_1 r53_2 n_58) l3_58 r74_0 n_80) (w_X12_risky_127 v_sort v_most v_end x20 r74_0 Q (w_X12_risky_58 p1 v_many v_sort v_value v_most v_parts v_end v_firstPart v_mayEmpty v_inCase v_partBegin v_partEnd Q x20 0 r7_0 r53_0 r53_1 r53_2 n_58) (w_X12_risky_80 p1 v_many v_sort v_most v_end x20 Q (w_X12_risky_58 p1 v_many v_sort v_value v_most v_parts v_end v_firstPart v_mayEmpty v_inCase v_partBegin v_partEnd Q x20 0 r7_0 r53_0 r53_1 r53_2 n_58) l3_58 r74_0 n_80) l4_80 s0_119 n_127) s0_190 l4_80 l6_127 v_isRisky_127 := by
                                  intro s0_190 f57
                                  unfold w_X12_risky_190
                                  refine ⟨i_in (by omega) (by omega), ?_⟩
                                  intro g190 eg190
                                  intro x191 ex191
                                  have f58 : x191.toInt = l6_127.toInt + 1 := i_add (a := l6_127.toInt) (b := 1) ex191 rfl rfl (by omega) (by omega)
                                  exact ih_127 x191 g190 (by omega) (by omega) (by have h8_0 := i_rng l6_127; have h8_1 := i_rng x191; omega)
                                have j_185 : w_X12_risky_185 Q (w_X12_risky_58 p1 v_many v_sort v_value v_most v_parts v_end v_firstPart v_mayEmpty v_inCase v_partBegin v_partEnd Q x20 0 r7_0 r53_0 r53_1 r53_2 n_58) (w_X12_risky_80 p1 v_many v_sort v_most v_end x20 Q (w_X12_risky_58 p1 v_many v_sort v_value v_most v_parts v_end v_firstPart v_mayEmpty v_inCase v_partBegin v_partEnd Q x20 0 r7_0 r53_0 r53_1 r53_2 n_58) l3_58 r74_0 n_80) (w_X12_risky_127 v_sort v_most v_end x20 r74_0 Q (w_X12_risky_58 p1 v_many v_sort v_value v_most v_parts v_end v_firstPart v_mayEmpty v_inCase v_partBegin v_partEnd Q x20 0 r7_0 r53_0 r53_1 r53_2 n_58) (w_X12_risky_80 p1 v_many v_sort v_most v_end x20 Q (w_X12_risky_58 p1 v_many v_sort v_value v_most v_parts v_end v_firstPart v_mayEmpty v_inCase v_partBegin v_partEnd Q x20 0 r7_0 r53_0 r53_1 r53_2 n_58) l3_58 r74_0 n_80) l4_80 s0_119 n_127) l4_80 l6_127 v_isRisky_127 := by
                                  unfold w_X12_risky_185
                                  exact j_190 1 (by omega)
                                refine ⟨fun c159 => ?_, fun c159 => ?_⟩
                                · have f59 : x158.toInt ≠ 0 := i_ne (a := x158.toInt) (b := 0) rfl rfl c159
                                  exact j_185  
                                · have f60 : x158.toInt = 0 := i_eq (a := x158.toInt) (b := 0) rfl rfl c159
                                  intro x166 ex166
                                  have f61 : x166.toInt = x20.toInt + l6_127.toInt := i_add (a := x20.toInt) (b := l6_127.toInt) ex166 rfl rfl (by omega) (by omega)
                                  refine ok_X12_isEndless (v_value := v_value) (v_least := v_least) (v_holder := v_holder) (v_parts := v_parts) (v_end := v_end) (v_firstPart := v_firstPart) (v_partBegin := v_partBegin) (v_partEnd := v_partEnd) (gb9 := (220 * p1.toInt)) (gq9 := (420 * p1.toInt)) (gn9 := (zg v_many p1.toInt)) (gc9 := (zg v_captures p1.toInt)) (by exact hS) (by first | assumption | omega) (by first | assumption | omega) (by first | assumption | omega) (by first | assumption | omega) (fun r167 f62 f63 u167_0 => ?_)
                                  have j_189 : ((r167.toInt = 0) ∨ (l6_127.toInt + 2 ≤ (zg v_many p1.toInt : Int))) → w_X12_risky_189 Q (w_X12_risky_58 p1 v_many v_sort v_value v_most v_parts v_end v_firstPart v_mayEmpty v_inCase v_partBegin v_partEnd Q x20 0 r7_0 r53_0 r53_1 r53_2 n_58) (w_X12_risky_80 p1 v_many v_sort v_most v_end x20 Q (w_X12_risky_58 p1 v_many v_sort v_value v_most v_parts v_end v_firstPart v_mayEmpty v_inCase v_partBegin v_partEnd Q x20 0 r7_0 r53_0 r53_1 r53_2 n_58) l3_58 r74_0 n_80) (w_X12_risky_127 v_sort v_most v_end x20 r74_0 Q (w_X12_risky_58 p1 v_many v_sort v_value v_most v_parts v_end v_firstPart v_mayEmpty v_inCase v_partBegin v_partEnd Q x20 0 r7_0 r53_0 r53_1 r53_2 n_58) (w_X12_risky_80 p1 v_many v_sort v_most v_end x20 Q (w_X12_risky_58 p1 v_many v_sort v_value v_most v_parts v_end v_firstPart v_mayEmpty v_inCase v_partBegin v_partEnd Q x20 0 r7_0 r53_0 r53_1 r53_2 n_58) l3_58 r74_0 n_80) l4_80 s0_119 n_127) l4_80 l6_127 v_isRisky_127 := by
                                    intro f64
                                    unfold w_X12_risky_189
                                    exact j_190 0 (by omega)
                                  refine ⟨fun c170 => ?_, fun c170 => ?_⟩
                                  · have f65 : r167.toInt = 0 := i_eq (a := r167.toInt) (b := 0) rfl rfl c170
                                    exact j_189  (by omega)
                                  · have f66 : r167.toInt ≠ 0 := i_ne (a := r167.toInt) (b := 0) rfl rfl c170
                                    have f67 : l6_127.toInt + 2 ≤ (zg v_many p1.toInt : Int) := by have h9 := zE_c (k := l6_127.toInt) hS (u167_0 (by omega)) (by omega) (by omega) (by omega); omega
                                    intro x180 ex180
                                    have f68 : x180.toInt = l6_127.toInt + 1 := i_add (a := l6_127.toInt) (b := 1) ex180 rfl rfl (by omega) (by omega)
                                    refine ⟨i_in (by omega) (by omega), ?_⟩
                                    intro x181 ex181
                                    have f69 : (0 ≤ x181.toInt ∧ x181.toInt ≤ 1) := i_bz ex181
                                    refine ⟨fun c182 => ?_, fun c182 => ?_⟩
                                    · have f70 : x181.toInt = 0 := i_eq (a := x181.toInt) (b := 0) rfl rfl c182
                                      exact j_189  (by omega)
                                    · have f71 : x181.toInt ≠ 0 := i_ne (a := x181.toInt) (b := 0) rfl rfl c182
                                      exact j_185  
                        exact ⟨((-1) * x124.toInt + 2147483648).toNat + 1, j_127   (((-1) * x124.toInt + 2147483648).toNat + 1) x124 v_isRisky_80 (by omega) (by omega) (by omega)⟩
                      have j_118 : ((r96.toInt = 0) ∨ (l4_80.toInt + 2 ≤ (zg v_many p1.toInt : Int))) → w_X12_risky_118 v_sort v_most v_end x20 r74_0 Q (w_X12_risky_58 p1 v_many v_sort v_value v_most v_parts v_end v_firstPart v_mayEmpty v_inCase v_partBegin v_partEnd Q x20 0 r7_0 r53_0 r53_1 r53_2 n_58) (w_X12_risky_80 p1 v_many v_sort v_most v_end x20 Q (w_X12_risky_58 p1 v_many v_sort v_value v_most v_parts v_end v_firstPart v_mayEmpty v_inCase v_partBegin v_partEnd Q x20 0 r7_0 r53_0 r53_1 r53_2 n_58) l3_58 r74_0 n_80) l4_80 v_isRisky_80 := by
                        intro f72
                        unfold w_X12_risky_118
                        exact j_119 0 (by omega)
                      refine ⟨fun c99 => ?_, fun c99 => ?_⟩
                      · have f73 : r96.toInt = 0 := i_eq (a := r96.toInt) (b := 0) rfl rfl c99
                        exact j_118  (by omega)
                      · have f74 : r96.toInt ≠ 0 := i_ne (a := r96.toInt) (b := 0) rfl rfl c99
                        have f75 : l4_80.toInt + 2 ≤ (zg v_many p1.toInt : Int) := by have h9 := zE_c (k := l4_80.toInt) hS (u96_0 (by omega)) (by omega) (by omega) (by omega); omega
                        intro x109 ex109
                        have f76 : x109.toInt = l4_80.toInt + 1 := i_add (a := l4_80.toInt) (b := 1) ex109 rfl rfl (by omega) (by omega)
                        refine ⟨i_in (by omega) (by omega), ?_⟩
                        intro x110 ex110
                        have f77 : (0 ≤ x110.toInt ∧ x110.toInt ≤ 1) := i_bz ex110
                        refine ⟨fun c111 => ?_, fun c111 => ?_⟩
                        · have f78 : x110.toInt = 0 := i_eq (a := x110.toInt) (b := 0) rfl rfl c111
                          exact j_118  (by omega)
                        · have f79 : x110.toInt ≠ 0 := i_ne (a := x110.toInt) (b := 0) rfl rfl c111
                          exact j_119 1 (by omega)
                exact ⟨(2147483648 : Int).toNat + 1, j_80   ((2147483648 : Int).toNat + 1) 0 v_isRisky_58 (by omega) (by omega)⟩
          exact ⟨(2147483648 : Int).toNat + 1, j_58   ((2147483648 : Int).toNat + 1) 0 v_begun v_isRisky_24 (by omega) (by omega) (by omega)⟩
        · have f80 : l3_24.toInt < x30.toInt := i_nle (a := x30.toInt) (b := l3_24.toInt) rfl rfl c31
          refine ⟨i_in (by omega) (by omega), ?_⟩
          intro g40 eg40
          intro x41 ex41
          have f81 : x41.toInt = l3_24.toInt + 1 := i_add (a := l3_24.toInt) (b := 1) ex41 rfl rfl (by omega) (by omega)
          exact ih_24 x41 g40 (by omega) (by have h8_0 := i_rng l3_24; have h8_1 := i_rng x41; omega)
    exact ⟨(2147483648 : Int).toNat + 1, j_24   ((2147483648 : Int).toNat + 1) 0 v_isRisky (by omega) (by omega)⟩
  · have f82 : r7.toInt ≠ 0 := i_ne (a := r7.toInt) (b := 0) rfl rfl c10
    exact hq (-2) 0 r7_0 v_boundMany v_begun v_isBound v_bounds v_isRisky (by omega) (by omega) (by omega) (by omega) (by omega) (rp_mono b0 (by omega) (by omega)) (rp_mono b0 (by omega) (by omega)) (rp_mono b0 (by omega) (by omega)) (by assumption)
set_option maxHeartbeats 4000000 in
theorem ok_X12_isPlain {p0 : Int32} {Q : Int32 → Prop} (hq : ∀ (r : Int32), 0 ≤ r.toInt → r.toInt ≤ 1 → ((r.toInt = 1) ∨ (r.toInt = 0)) → Q r) : w_X12_isPlain p0 Q := by
  have q_t : (bz true).toInt = 1 := rfl
  have q_f : (bz false).toInt = 0 := rfl
  have q_0 : (0 : Int32).toInt = 0 := rfl
  have q_1 : (1 : Int32).toInt = 1 := rfl
  unfold w_X12_isPlain
  have j_89 : ∀ (s0_89 : Int32), 0 ≤ s0_89.toInt → s0_89.toInt ≤ 1 → ((s0_89.toInt = 1) ∨ (s0_89.toInt = 0)) → w_X12_isPlain_89 Q s0_89 := by
    intro s0_89 f1 f2 f3
    unfold w_X12_isPlain_89
    refine ⟨i_01 (by omega) (by omega), ?_⟩
    exact hq s0_89 (by omega) (by omega) (by omega)
  have j_88 : w_X12_isPlain_88 Q := by
    unfold w_X12_isPlain_88
    exact j_89 0 (by omega) (by omega) (by omega)
  refine ⟨fun c3 => ?_, fun c3 => ?_⟩
  · have f4 : p0.toInt = 92 := i_eq (a := p0.toInt) (b := 92) rfl rfl c3
    exact j_88  
  · have f5 : p0.toInt ≠ 92 := i_ne (a := p0.toInt) (b := 92) rfl rfl c3
    refine ⟨fun c9 => ?_, fun c9 => ?_⟩
    · have f6 : p0.toInt = 124 := i_eq (a := p0.toInt) (b := 124) rfl rfl c9
      exact j_88  
    · have f7 : p0.toInt ≠ 124 := i_ne (a := p0.toInt) (b := 124) rfl rfl c9
      refine ⟨fun c15 => ?_, fun c15 => ?_⟩
      · have f8 : p0.toInt = 42 := i_eq (a := p0.toInt) (b := 42) rfl rfl c15
        exact j_88  
      · have f9 : p0.toInt ≠ 42 := i_ne (a := p0.toInt) (b := 42) rfl rfl c15
        refine ⟨fun c21 => ?_, fun c21 => ?_⟩
        · have f10 : p0.toInt = 43 := i_eq (a := p0.toInt) (b := 43) rfl rfl c21
          exact j_88  
        · have f11 : p0.toInt ≠ 43 := i_ne (a := p0.toInt) (b := 43) rfl rfl c21
          refine ⟨fun c27 => ?_, fun c27 => ?_⟩
          · have f12 : p0.toInt = 63 := i_eq (a := p0.toInt) (b := 63) rfl rfl c27
            exact j_88  
          · have f13 : p0.toInt ≠ 63 := i_ne (a := p0.toInt) (b := 63) rfl rfl c27
            refine ⟨fun c33 => ?_, fun c33 => ?_⟩
            · have f14 : p0.toInt = 123 := i_eq (a := p0.toInt) (b := 123) rfl rfl c33
              exact j_88  
            · have f15 : p0.toInt ≠ 123 := i_ne (a := p0.toInt) (b := 123) rfl rfl c33
              refine ⟨fun c39 => ?_, fun c39 => ?_⟩
              · have f16 : p0.toInt = 125 := i_eq (a := p0.toInt) (b := 125) rfl rfl c39
                exact j_88  
              · have f17 : p0.toInt ≠ 125 := i_ne (a := p0.toInt) (b := 125) rfl rfl c39
                refine ⟨fun c45 => ?_, fun c45 => ?_⟩
                · have f18 : p0.toInt = 40 := i_eq (a := p0.toInt) (b := 40) rfl rfl c45
                  exact j_88  
                · have f19 : p0.toInt ≠ 40 := i_ne (a := p0.toInt) (b := 40) rfl rfl c45
                  refine ⟨fun c51 => ?_, fun c51 => ?_⟩
                  · have f20 : p0.toInt = 41 := i_eq (a := p0.toInt) (b := 41) rfl rfl c51
                    exact j_88  
                  · have f21 : p0.toInt ≠ 41 := i_ne (a := p0.toInt) (b := 41) rfl rfl c51
                    refine ⟨fun c57 => ?_, fun c57 => ?_⟩
                    · have f22 : p0.toInt = 91 := i_eq (a := p0.toInt) (b := 91) rfl rfl c57
                      exact j_88  
                    · have f23 : p0.toInt ≠ 91 := i_ne (a := p0.toInt) (b := 91) rfl rfl c57
                      refine ⟨fun c63 => ?_, fun c63 => ?_⟩
                      · have f24 : p0.toInt = 93 := i_eq (a := p0.toInt) (b := 93) rfl rfl c63
                        exact j_88  
                      · have f25 : p0.toInt ≠ 93 := i_ne (a := p0.toInt) (b := 93) rfl rfl c63
                        refine ⟨fun c69 => ?_, fun c69 => ?_⟩
                        · have f26 : p0.toInt = 46 := i_eq (a := p0.toInt) (b := 46) rfl rfl c69
                          exact j_88  
                        · have f27 : p0.toInt ≠ 46 := i_ne (a := p0.toInt) (b := 46) rfl rfl c69
                          refine ⟨fun c75 => ?_, fun c75 => ?_⟩
                          · have f28 : p0.toInt = 94 := i_eq (a := p0.toInt) (b := 94) rfl rfl c75
                            exact j_88  
                          · have f29 : p0.toInt ≠ 94 := i_ne (a := p0.toInt) (b := 94) rfl rfl c75
                            refine ⟨fun c81 => ?_, fun c81 => ?_⟩
                            · have f30 : p0.toInt = 36 := i_eq (a := p0.toInt) (b := 36) rfl rfl c81
                              exact j_88  
                            · have f31 : p0.toInt ≠ 36 := i_ne (a := p0.toInt) (b := 36) rfl rfl c81
                              exact j_89 1 (by omega) (by omega) (by omega)
set_option maxHeartbeats 4000000 in
theorem ok_X12_isMark {p0 : Int32} {Q : Int32 → Prop} (hq : ∀ (r : Int32), 0 ≤ r.toInt → r.toInt ≤ 1 → ((r.toInt = 0) ∨ (r.toInt = 1)) → Q r) : w_X12_isMark p0 Q := by
  have q_t : (bz true).toInt = 1 := rfl
  have q_f : (bz false).toInt = 0 := rfl
  have q_0 : (0 : Int32).toInt = 0 := rfl
  have q_1 : (1 : Int32).toInt = 1 := rfl
  unfold w_X12_isMark
  have j_53 : ∀ (s0_53 : Int32), 0 ≤ s0_53.toInt → s0_53.toInt ≤ 1 → ((s0_53.toInt = 0) ∨ (s0_53.toInt = 1)) → w_X12_isMark_53 Q s0_53 := by
    intro s0_53 f1 f2 f3
    unfold w_X12_isMark_53
    refine ⟨i_01 (by omega) (by omega), ?_⟩
    exact hq s0_53 (by omega) (by omega) (by omega)
  have j_48 : w_X12_isMark_48 Q := by
    unfold w_X12_isMark_48
    exact j_53 1 (by omega) (by omega) (by omega)
  refine ⟨fun c3 => ?_, fun c3 => ?_⟩
  · have f4 : p0.toInt = 58 := i_eq (a := p0.toInt) (b := 58) rfl rfl c3
    exact j_48  
  · have f5 : p0.toInt ≠ 58 := i_ne (a := p0.toInt) (b := 58) rfl rfl c3
    refine ⟨fun c9 => ?_, fun c9 => ?_⟩
    · have f6 : p0.toInt = 61 := i_eq (a := p0.toInt) (b := 61) rfl rfl c9
      exact j_48  
    · have f7 : p0.toInt ≠ 61 := i_ne (a := p0.toInt) (b := 61) rfl rfl c9
      refine ⟨fun c15 => ?_, fun c15 => ?_⟩
      · have f8 : p0.toInt = 33 := i_eq (a := p0.toInt) (b := 33) rfl rfl c15
        exact j_48  
      · have f9 : p0.toInt ≠ 33 := i_ne (a := p0.toInt) (b := 33) rfl rfl c15
        refine ⟨fun c21 => ?_, fun c21 => ?_⟩
        · have f10 : p0.toInt = 60 := i_eq (a := p0.toInt) (b := 60) rfl rfl c21
          exact j_48  
        · have f11 : p0.toInt ≠ 60 := i_ne (a := p0.toInt) (b := 60) rfl rfl c21
          refine ⟨fun c27 => ?_, fun c27 => ?_⟩
          · have f12 : p0.toInt = 126 := i_eq (a := p0.toInt) (b := 126) rfl rfl c27
            exact j_48  
          · have f13 : p0.toInt ≠ 126 := i_ne (a := p0.toInt) (b := 126) rfl rfl c27
            refine ⟨fun c33 => ?_, fun c33 => ?_⟩
            · have f14 : p0.toInt = 37 := i_eq (a := p0.toInt) (b := 37) rfl rfl c33
              exact j_48  
            · have f15 : p0.toInt ≠ 37 := i_ne (a := p0.toInt) (b := 37) rfl rfl c33
              refine ⟨fun c39 => ?_, fun c39 => ?_⟩
              · have f16 : p0.toInt = 64 := i_eq (a := p0.toInt) (b := 64) rfl rfl c39
                exact j_48  
              · have f17 : p0.toInt ≠ 64 := i_ne (a := p0.toInt) (b := 64) rfl rfl c39
                refine ⟨fun c45 => ?_, fun c45 => ?_⟩
                · have f18 : p0.toInt ≠ 35 := i_ne (a := p0.toInt) (b := 35) rfl rfl c45
                  exact j_53 0 (by omega) (by omega) (by omega)
                · have f19 : p0.toInt = 35 := i_eq (a := p0.toInt) (b := 35) rfl rfl c45
                  exact j_48  
set_option maxHeartbeats 4000000 in
theorem ok_X12_printHead {p1 : Int32} {p2 : Int32} {v_printedMany : Int32} {v_opened : Int32} {v_nameOf : Nat → Int32} {v_sort : Nat → Int32} {v_value : Nat → Int32} {v_holder : Nat → Int32} {v_parts : Nat → Int32} {v_firstPart : Nat → Int32} {v_partBegin : Nat → Int32} {v_partEnd : Nat → Int32} {v_printed : Nat → Int32} {v_least : Nat → Int32} {v_most : Nat → Int32} {v_end : Nat → Int32} {v_many : Nat → Int32} {v_captures : Nat → Int32} {Q : Int32 → Int32 → (Nat → Int32) → Prop} (a0 : 0 ≤ p1.toInt) (a1 : p1.toInt ≤ 5) (a2 : 0 ≤ p2.toInt) (a3 : 0 ≤ v_printedMany.toInt) (u0 : zSl v_sort v_value v_least v_most v_holder v_parts v_end v_firstPart v_partBegin v_partEnd (220 * p1.toInt) (420 * p1.toInt) (zg v_many p1.toInt) (zg v_captures p1.toInt)) (u1 : p2.toInt < zg v_many p1.toInt) (u2 : v_printedMany.toInt + 20 + zvs v_sort v_value v_parts v_firstPart v_partBegin v_partEnd (220 * p1.toInt) (420 * p1.toInt) p2.toInt ≤ 4000) (hq : ∀ (ov_printedMany : Int32) (ov_opened : Int32) (ov_printed : Nat → Int32), v_printedMany.toInt ≤ ov_printedMany.toInt → ov_printedMany.toInt ≤ 3999 → (ov_printedMany.toInt + zrt v_sort (220 * p1.toInt) p2.toInt ≤ v_printedMany.toInt + 11 + zvs v_sort v_value v_parts v_firstPart v_partBegin v_partEnd (220 * p1.toInt) (420 * p1.toInt) p2.toInt) → Q ov_printedMany ov_opened ov_printed) : w_X12_printHead p1 p2 v_printedMany v_opened v_nameOf v_sort v_value v_holder v_parts v_firstPart v_partBegin v_partEnd v_printed Q := by
  have q_t : (bz true).toInt = 1 := rfl
  have q_f : (bz false).toInt = 0 := rfl
  have q_32 : (32 : Int32).toInt = 32 := rfl
  have q_33 : (33 : Int32).toInt = 33 := rfl
  have q_36 : (36 : Int32).toInt = 36 := rfl
  have q_37 : (37 : Int32).toInt = 37 := rfl
  have q_40 : (40 : Int32).toInt = 40 := rfl
  have q_42 : (42 : Int32).toInt = 42 := rfl
  have q_45 : (45 : Int32).toInt = 45 := rfl
  have q_46 : (46 : Int32).toInt = 46 := rfl
  have q_58 : (58 : Int32).toInt = 58 := rfl
  have q_60 : (60 : Int32).toInt = 60 := rfl
  have q_61 : (61 : Int32).toInt = 61 := rfl
  have q_64 : (64 : Int32).toInt = 64 := rfl
  have q_66 : (66 : Int32).toInt = 66 := rfl
  have q_91 : (91 : Int32).toInt = 91 := rfl
  have q_92 : (92 : Int32).toInt = 92 := rfl
  have q_93 : (93 : Int32).toInt = 93 := rfl
  have q_94 : (94 : Int32).toInt = 94 := rfl
  have q_98 : (98 : Int32).toInt = 98 := rfl
  have q_126 : (126 : Int32).toInt = 126 := rfl
  unfold w_X12_printHead
  have f1 : 1 ≤ (zg v_many p1.toInt : Int) := (zS_n u0).1
  have f2 : (zg v_many p1.toInt : Int) ≤ 220 := (zS_n u0).2
  have f3 : 0 ≤ (zg v_captures p1.toInt : Int) := (zS_c u0).1
  have f4 : (zg v_captures p1.toInt : Int) ≤ 9 := (zS_c u0).2
  have f5 : p2.toInt + 1 ≤ (zg v_many p1.toInt : Int) := u1
  have f6 : v_printedMany.toInt ≤ 3980 := by have h8 := zvs_nn (k := p2.toInt) u0 (by omega) (by omega); omega
  intro x4 ex4
  have f7 : x4.toInt = 220 * p1.toInt := i_mul (a := 220) (b := p1.toInt) ex4 rfl rfl (by omega) (by omega)
  intro x6 ex6
  have f8 : x6.toInt = x4.toInt + p2.toInt := i_add (a := x4.toInt) (b := p2.toInt) ex6 rfl rfl (by omega) (by omega)
  refine ⟨i_in (by omega) (by omega), ?_⟩
  intro x13 ex13
  have f9 : 0 ≤ x13.toInt ∧ x13.toInt ≤ 65535 := by have h9 := zS_value (k := (-220) * p1.toInt + x6.toInt) u0 ex13 (by omega) (by omega) (by omega); omega
  have f10 : ((x13.toInt ≤ 9) ∨ (x13.toInt ≤ 65535)) := by omega
  refine ok_X12_isWrapped (v_value := v_value) (v_least := v_least) (v_most := v_most) (v_parts := v_parts) (v_end := v_end) (v_firstPart := v_firstPart) (v_partBegin := v_partBegin) (v_partEnd := v_partEnd) (v_many := v_many) (v_captures := v_captures) (by omega) (by omega) (by omega) (by first | assumption | omega) (by first | assumption | omega) (fun r19 f11 f12 f13 u19_0 => ?_)
  have j_37 : ∀ (v_printedMany_37 : Int32) (v_printed_37 : Nat → Int32), v_printedMany.toInt ≤ v_printedMany_37.toInt → v_printedMany_37.toInt ≤ v_printedMany.toInt + 2 → ((v_printedMany_37.toInt = v_printedMany.toInt ∧ r19.toInt = 0) ∨ (v_printedMany_37.toInt = v_printedMany.toInt + 2)) → w_X12_printHead_37 p1 v_nameOf v_sort v_parts v_firstPart v_partBegin v_partEnd Q x6 x13 v_printedMany_37 v_opened v_printed_37 := by
    intro v_printedMany_37 v_printed_37 f14 f15 f16
    unfold w_X12_printHead_37
    refine ⟨i_in (by omega) (by omega), ?_⟩
    intro x42 ex42
    have f17 : 0 ≤ x42.toInt ∧ x42.toInt ≤ 11 := by have h9 := zS_sort (k := (-220) * p1.toInt + x6.toInt) u0 ex42 (by omega) (by omega) (by omega); omega
    have j_482 : ∀ (v_printedMany_482 : Int32) (v_opened_482 : Int32) (v_printed_482 : Nat → Int32), v_printedMany.toInt ≤ v_printedMany_482.toInt → v_printedMany_482.toInt ≤ 3999 → (v_printedMany_482.toInt + zrt v_sort (220 * p1.toInt) p2.toInt ≤ v_printedMany.toInt + 11 + zvs v_sort v_value v_parts v_firstPart v_partBegin v_partEnd (220 * p1.toInt) (420 * p1.toInt) p2.toInt) → w_X12_printHead_482 Q v_printedMany_482 v_opened_482 v_printed_482 := by
      intro v_printedMany_482 v_opened_482 v_printed_482 f18 f19 u482_0
      unfold w_X12_printHead_482
      exact hq v_printedMany_482 v_opened_482 v_printed_482 (by omega) (by omega) (by assumption)
    refine ⟨fun c43_0 => ?_, fun c43_1 => ?_, fun c43_2 => ?_, fun c43_3 => ?_, fun c43_4 => ?_, fun c43_5 => ?_, fun c43_6 => ?_, fun c43_7 => ?_, fun c43_8 => ?_, ?_⟩
    · have f20 : x42.toInt = 0 := i_eq (a := x42.toInt) (b := 0) rfl rfl c43_0
      refine ok_X12_in  (fun r110 f21 f22 f23 f24 f25 f26 => ?_)
      have j_135 : ((r110.toInt = 0) ∨ (v_printedMany_37.toInt = v_opened.toInt)) → w_X12_printHead_135 Q x13 v_printedMany_37 v_opened v_printed_37 := by
        intro f27
        unfold w_X12_printHead_135
        refine ok_X12_putHex (by omega) (by omega) (fun r138_0 r138_1 f28 f29 f30 f31 f32 f33 f34 f35 f36 f37 f38 f39 f40 f41 f42 f43 f44 => ?_)
        exact j_482 r138_0 v_opened r138_1 (by omega) (by omega) (by first | (have h9 := zrt_b (b := (220 * p1.toInt)) (k := p2.toInt) ex42 (by omega); have h8 := zvs_nn (k := p2.toInt) u0 (by omega) (by omega); omega) | (unfold zph at hz9; have h9 := zrt_b (b := (220 * p1.toInt)) (k := p2.toInt) ex42 (by omega); have h8 := zvs_nn (k := p2.toInt) u0 (by omega) (by omega); omega))
      refine ⟨fun c113 => ?_, fun c113 => ?_⟩
      · have f45 : r110.toInt = 0 := i_eq (a := r110.toInt) (b := 0) rfl rfl c113
        exact j_135  (by omega)
      · have f46 : r110.toInt ≠ 0 := i_ne (a := r110.toInt) (b := 0) rfl rfl c113
        have j_144 : w_X12_printHead_144 Q x13 v_printedMany_37 v_opened v_printed_37 := by
          unfold w_X12_printHead_144
          refine ok_X12_isPlain  (fun r146 f47 f48 f49 => ?_)
          have j_158 : ∀ (v_printedMany_158 : Int32) (v_printed_158 : Nat → Int32), v_printedMany.toInt ≤ v_printedMany_158.toInt → v_printedMany_158.toInt ≤ v_printedMany.toInt + 3 → ((v_printedMany_158.toInt = v_printedMany_37.toInt) ∨ (r146.toInt = 0 ∧ v_printedMany_158.toInt = v_printedMany_37.toInt + 1)) → w_X12_printHead_158 Q x13 v_printedMany_158 v_opened v_printed_158 := by
            intro v_printedMany_158 v_printed_158 f50 f51 f52
            unfold w_X12_printHead_158
            refine ok_X12_put (by omega) (by omega) (fun r161_0 r161_1 f53 => ?_)
            exact j_482 r161_0 v_opened r161_1 (by omega) (by omega) (by first | (have h9 := zrt_b (b := (220 * p1.toInt)) (k := p2.toInt) ex42 (by omega); have h8 := zvs_nn (k := p2.toInt) u0 (by omega) (by omega); omega) | (unfold zph at hz9; have h9 := zrt_b (b := (220 * p1.toInt)) (k := p2.toInt) ex42 (by omega); have h8 := zvs_nn (k := p2.toInt) u0 (by omega) (by omega); omega))
          refine ⟨fun c149 => ?_, fun c149 => ?_⟩
          · have f54 : r146.toInt ≠ 0 := i_ne (a := r146.toInt) (b := 0) rfl rfl c149
            exact j_158 v_printedMany_37 v_printed_37 (by omega) (by omega) (by omega)
          · have f55 : r146.toInt = 0 := i_eq (a := r146.toInt) (b := 0) rfl rfl c149
            refine ok_X12_put (by omega) (by omega) (fun r155_0 r155_1 f56 => ?_)
            exact j_158 r155_0 r155_1 (by omega) (by omega) (by omega)
        refine ⟨fun c124 => ?_, fun c124 => ?_⟩
        · have f57 : v_printedMany_37.toInt ≠ v_opened.toInt := i_ne (a := v_printedMany_37.toInt) (b := v_opened.toInt) rfl rfl c124
          exact j_144  
        · have f58 : v_printedMany_37.toInt = v_opened.toInt := i_eq (a := v_printedMany_37.toInt) (b := v_opened.toInt) rfl rfl c124
          refine ok_X12_isMark  (fun r129 f59 f60 f61 => ?_)
          refine ⟨fun c132 => ?_, fun c132 => ?_⟩
          · have f62 : r129.toInt = 0 := i_eq (a := r129.toInt) (b := 0) rfl rfl c132
            exact j_144  
          · have f63 : r129.toInt ≠ 0 := i_ne (a := r129.toInt) (b := 0) rfl rfl c132
            exact j_135  (by omega)
    · have f64 : x42.toInt = 1 := i_eq (a := x42.toInt) (b := 1) rfl rfl c43_1
      refine ok_X12_put (by omega) (by omega) (fun r170_0 r170_1 f65 => ?_)
      exact j_482 r170_0 v_opened r170_1 (by omega) (by omega) (by first | (have h9 := zrt_b (b := (220 * p1.toInt)) (k := p2.toInt) ex42 (by omega); have h8 := zvs_nn (k := p2.toInt) u0 (by omega) (by omega); omega) | (unfold zph at hz9; have h9 := zrt_b (b := (220 * p1.toInt)) (k := p2.toInt) ex42 (by omega); have h8 := zvs_nn (k := p2.toInt) u0 (by omega) (by omega); omega))
    · have f66 : x42.toInt = 2 := i_eq (a := x42.toInt) (b := 2) rfl rfl c43_2
      refine ok_X12_put (by omega) (by omega) (fun r179_0 r179_1 f67 => ?_)
      have j_194 : ∀ (v_printedMany_194 : Int32) (v_printed_194 : Nat → Int32), v_printedMany.toInt ≤ v_printedMany_194.toInt → v_printedMany_194.toInt ≤ v_printedMany.toInt + 4 → ((v_printedMany_194.toInt = r179_0.toInt) ∨ (x13.toInt = 1 ∧ v_printedMany_194.toInt = r179_0.toInt + 1)) → w_X12_printHead_194 v_parts v_firstPart v_partBegin v_partEnd Q x6 v_printedMany_194 v_opened v_printed_194 := by
        intro v_printedMany_194 v_printed_194 f68 f69 f70
        unfold w_X12_printHead_194
        refine ⟨i_in (by omega) (by omega), ?_⟩
        intro x199 ex199
        have f71 : (420 * p1.toInt ≤ x199.toInt ∧ x199.toInt ≤ 420 * p1.toInt + 420) := zS_fp0 (k := p2.toInt) u0 ex199 (by omega) (by omega) (by omega) (by rw [← zg_at ex42]; omega)
        have j_202 : ∀ n_202 : Nat, ∀ (l5_202 : Int32) (v_printedMany_202 : Int32) (v_printed_202 : Nat → Int32), l5_202.toInt ≤ 2520 → x199.toInt ≤ l5_202.toInt → v_printedMany_202.toInt ≤ 3999 → v_printedMany_194.toInt ≤ v_printedMany_202.toInt → (zph v_partBegin v_partEnd (420 * p1.toInt) v_printedMany.toInt v_printedMany_202.toInt l5_202.toInt x199.toInt) → (l5_202.toInt ≤ x199.toInt + zg v_parts x6.toInt) → ((-1) * l5_202.toInt + 2147483648).toNat < n_202 → w_X12_printHead_202 v_parts v_firstPart v_partBegin v_partEnd Q x6 v_opened n_202 l5_202 v_printedMany_202 v_printed_202 := by
          intro n_202
          induction n_202 with
          | zero =>
            intro l5_202 v_printedMany_202 v_printed_202 f72 f73 f74 f75 u202_0 u202_1 hm_202
            exfalso; omega
          | succ n_202 ih_202 =>
            intro l5_202 v_printedMany_202 v_printed_202 f72 f73 f74 f75 u202_0 u202_1 hm_202
            unfold w_X12_printHead_202
            unfold w_X12_printHead_202B
            refine ⟨i_in (by omega) (by omega), ?_⟩
            intro x209 ex209
            have f76 : x209.toInt = x199.toInt := congrArg Int32.toInt (ex209.trans ex199.symm)
            refine ⟨i_in (by omega) (by omega), ?_⟩
            intro x215 ex215
            have f77 : (420 * p1.toInt ≤ x209.toInt ∧ 0 ≤ x215.toInt ∧ x209.toInt + x215.toInt ≤ 420 * p1.toInt + 420) := zS_fp (k := p2.toInt) u0 ex209 ex215 (by omega) (by omega) (by omega) (by omega) (by rw [← zg_at ex42]; omega)
            intro x216 ex216
            have f78 : x216.toInt = x209.toInt + x215.toInt := i_add (a := x209.toInt) (b := x215.toInt) ex216 rfl rfl (by omega) (by omega)
            refine ⟨fun c217 => ?_, fun c217 => ?_⟩
            · have f79 : x216.toInt ≤ l5_202.toInt := i_le (a := x216.toInt) (b := l5_202.toInt) rfl rfl c217
              have hv9 := zvs_set (pa := v_parts) (b := (220 * p1.toInt)) (va := v_value) (pb := v_partBegin) (pe := v_partEnd) (q := (420 * p1.toInt)) (k := p2.toInt) (j := x199.toInt) (l := l5_202.toInt) ex42 (by omega) (by omega) ex199 rfl (by have hw9 := zg_at2 (k := x6.toInt) ex215 (by omega); omega)
              have hw9 := zg_at2 (k := x6.toInt) ex215 (by omega)
              have hz9 := u202_0
              have f80 : v_printedMany_202.toInt ≤ 3984 := by unfold zph at hz9; omega
              refine ok_X12_put (by omega) (by omega) (fun r274_0 r274_1 f81 => ?_)
              exact j_482 r274_0 v_opened r274_1 (by omega) (by omega) (by first | (have h9 := zrt_b (b := (220 * p1.toInt)) (k := p2.toInt) ex42 (by omega); have h8 := zvs_nn (k := p2.toInt) u0 (by omega) (by omega); omega) | (unfold zph at hz9; have h9 := zrt_b (b := (220 * p1.toInt)) (k := p2.toInt) ex42 (by omega); have h8 := zvs_nn (k := p2.toInt) u0 (by omega) (by omega); omega))
            · have f82 : l5_202.toInt < x216.toInt := i_nle (a := x216.toInt) (b := l5_202.toInt) rfl rfl c217
              have hv9 := zvs_set (pa := v_parts) (b := (220 * p1.toInt)) (va := v_value) (pb := v_partBegin) (pe := v_partEnd) (q := (420 * p1.toInt)) (k := p2.toInt) (j := x199.toInt) (l := x199.toInt + zg v_parts x6.toInt) ex42 (by omega) (by omega) ex199 rfl rfl
              have hw9 := zg_at2 (k := x6.toInt) ex215 (by omega)
              have hy9 := zml_mono (pb := v_partBegin) (pe := v_partEnd) (q := (420 * p1.toInt)) (j := x199.toInt) (show l5_202.toInt ≤ x199.toInt + zg v_parts x6.toInt by omega)
              have hz9 := u202_0
              have f83 : v_printedMany_202.toInt ≤ 3979 := by unfold zph at hz9; omega
              refine ⟨i_in (by omega) (by omega), ?_⟩
              intro x227 ex227
              refine ok_X12_putMember (by omega) (by omega) (fun r228_0 r228_1 f84 f85 f86 f87 f88 => ?_)
              refine ⟨i_in (by omega) (by omega), ?_⟩
              intro x237 ex237
              refine ⟨i_in (by omega) (by omega), ?_⟩
              intro x244 ex244
              have f89 : x244.toInt = x227.toInt := congrArg Int32.toInt (ex244.trans ex227.symm)
              have j_265 : ∀ (v_printedMany_265 : Int32) (v_printed_265 : Nat → Int32), v_printedMany.toInt ≤ v_printedMany_265.toInt → v_printedMany_202.toInt ≤ v_printedMany_265.toInt → v_printedMany_265.toInt ≤ v_printedMany_202.toInt + 13 → ((v_printedMany_265.toInt = r228_0.toInt) ∨ (r228_0.toInt + 1 ≤ v_printedMany_265.toInt ∧ 1 ≤ v_printedMany_265.toInt ∧ v_printedMany_265.toInt ≤ 4000 ∧ v_printedMany_265.toInt ≤ r228_0.toInt + 7)) → (v_printedMany_265.toInt ≤ r228_0.toInt + 7 ∧ (v_printedMany_265.toInt ≤ r228_0.toInt + 3 ∨ x237.toInt < 32 ∨ 126 < x237.toInt)) → w_X12_printHead_265 Q (w_X12_printHead_202 v_parts v_firstPart v_partBegin v_partEnd Q x6 v_opened n_202) l5_202 v_printedMany_265 v_printed_265 := by
                intro v_printedMany_265 v_printed_265 f90 f91 f92 f93 u265_0
                unfold w_X12_printHead_265
                intro x265 ex265
                have f94 : x265.toInt = l5_202.toInt + 1 := i_add (a := l5_202.toInt) (b := 1) ex265 rfl rfl (by omega) (by omega)
                exact ih_202 x265 v_printedMany_265 v_printed_265  (by omega) (by omega) (by omega) (by omega) (by first | exact zph_0 (by omega) | exact zph_s (a := r228_0.toInt) hz9 ex227 ex237 (by omega) (by omega) (by omega) (by omega) (by omega)) (by first | omega | (have h9 := zS_pa (k := p2.toInt) u0 (y := v_parts x6.toNatClampNeg) rfl (by omega) (by omega) (by omega) (by rw [← zg_at2 ex42 (by omega)]; omega); have h7 : (v_parts x6.toNatClampNeg).toInt = zg v_parts x6.toInt := rfl; omega)) (by have h8_0 := i_rng l5_202; have h8_1 := i_rng x265; omega)
              refine ⟨fun c245 => ?_, fun c245 => ?_⟩
              · have f95 : x237.toInt ≤ x244.toInt := i_le (a := x237.toInt) (b := x244.toInt) rfl rfl c245
                exact j_265 r228_0 r228_1 (by omega) (by omega) (by omega) (by omega) (by omega)
              · have f96 : x244.toInt < x237.toInt := i_nle (a := x237.toInt) (b := x244.toInt) rfl rfl c245
                refine ok_X12_put (by omega) (by omega) (fun r251_0 r251_1 f97 => ?_)
                refine ⟨i_in (by omega) (by omega), ?_⟩
                intro x261 ex261
                have f98 : x261.toInt = x237.toInt := congrArg Int32.toInt (ex261.trans ex237.symm)
                refine ok_X12_putMember (by omega) (by omega) (fun r262_0 r262_1 f99 f100 f101 f102 f103 => ?_)
                exact j_265 r262_0 r262_1 (by omega) (by omega) (by omega) (by omega) (by omega)
        exact ⟨((-1) * x199.toInt + 2147483648).toNat + 1, j_202   (((-1) * x199.toInt + 2147483648).toNat + 1) x199 v_printedMany_194 v_printed_194  (by omega) (by omega) (by omega) (by omega) (by first | exact zph_0 (by omega) | exact zph_s (a := r228_0.toInt) hz9 ex227 ex237 (by omega) (by omega) (by omega) (by omega) (by omega)) (by first | omega | (have h9 := zS_pa (k := p2.toInt) u0 (y := v_parts x6.toNatClampNeg) rfl (by omega) (by omega) (by omega) (by rw [← zg_at2 ex42 (by omega)]; omega); have h7 : (v_parts x6.toNatClampNeg).toInt = zg v_parts x6.toInt := rfl; omega)) (by omega)⟩
      refine ⟨fun c185 => ?_, fun c185 => ?_⟩
      · have f104 : x13.toInt ≠ 1 := i_ne (a := x13.toInt) (b := 1) rfl rfl c185
        exact j_194 r179_0 r179_1 (by omega) (by omega) (by omega)
      · have f105 : x13.toInt = 1 := i_eq (a := x13.toInt) (b := 1) rfl rfl c185
        refine ok_X12_put (by omega) (by omega) (fun r191_0 r191_1 f106 => ?_)
        exact j_194 r191_0 r191_1 (by omega) (by omega) (by omega)
    · have f107 : x42.toInt = 3 := i_eq (a := x42.toInt) (b := 3) rfl rfl c43_3
      have j_292 : ∀ (v_printedMany_292 : Int32) (v_printed_292 : Nat → Int32), v_printedMany.toInt ≤ v_printedMany_292.toInt → v_printedMany_292.toInt ≤ v_printedMany.toInt + 3 → ((v_printedMany_292.toInt = v_printedMany_37.toInt ∧ x13.toInt ≤ 1) ∨ (2 ≤ x13.toInt ∧ v_printedMany_292.toInt = v_printedMany_37.toInt + 1)) → w_X12_printHead_292 Q x13 v_printedMany_292 v_opened v_printed_292 := by
        intro v_printedMany_292 v_printed_292 f108 f109 f110
        unfold w_X12_printHead_292
        have j_327 : ∀ (s0_327 : Int32), 32 ≤ s0_327.toInt → s0_327.toInt ≤ 99 → w_X12_printHead_327 Q s0_327 v_printedMany_292 v_opened v_printed_292 := by
          intro s0_327 f111 f112
          unfold w_X12_printHead_327
          refine ok_X12_put (by omega) (by omega) (fun r327_0 r327_1 f113 => ?_)
          exact j_482 r327_0 v_opened r327_1 (by omega) (by omega) (by first | (have h9 := zrt_b (b := (220 * p1.toInt)) (k := p2.toInt) ex42 (by omega); have h8 := zvs_nn (k := p2.toInt) u0 (by omega) (by omega); omega) | (unfold zph at hz9; have h9 := zrt_b (b := (220 * p1.toInt)) (k := p2.toInt) ex42 (by omega); have h8 := zvs_nn (k := p2.toInt) u0 (by omega) (by omega); omega))
        refine ⟨fun c295 => ?_, fun c295 => ?_⟩
        · have f114 : x13.toInt ≠ 0 := i_ne (a := x13.toInt) (b := 0) rfl rfl c295
          refine ⟨fun c306 => ?_, fun c306 => ?_⟩
          · have f115 : x13.toInt ≠ 1 := i_ne (a := x13.toInt) (b := 1) rfl rfl c306
            refine ⟨fun c317 => ?_, fun c317 => ?_⟩
            · have f116 : x13.toInt ≠ 2 := i_ne (a := x13.toInt) (b := 2) rfl rfl c317
              exact j_327 66 (by omega) (by omega)
            · have f117 : x13.toInt = 2 := i_eq (a := x13.toInt) (b := 2) rfl rfl c317
              exact j_327 98 (by omega) (by omega)
          · have f118 : x13.toInt = 1 := i_eq (a := x13.toInt) (b := 1) rfl rfl c306
            exact j_327 36 (by omega) (by omega)
        · have f119 : x13.toInt = 0 := i_eq (a := x13.toInt) (b := 0) rfl rfl c295
          exact j_327 94 (by omega) (by omega)
      refine ⟨fun c283 => ?_, fun c283 => ?_⟩
      · have f120 : x13.toInt ≤ 1 := i_le (a := x13.toInt) (b := 1) rfl rfl c283
        exact j_292 v_printedMany_37 v_printed_37 (by omega) (by omega) (by omega)
      · have f121 : 1 < x13.toInt := i_nle (a := x13.toInt) (b := 1) rfl rfl c283
        refine ok_X12_put (by omega) (by omega) (fun r289_0 r289_1 f122 => ?_)
        exact j_292 r289_0 r289_1 (by omega) (by omega) (by omega)
    · have f123 : x42.toInt = 4 := i_eq (a := x42.toInt) (b := 4) rfl rfl c43_4
      refine ok_X12_put (by omega) (by omega) (fun r336_0 r336_1 f124 => ?_)
      intro x344 ex344
      have f125 : x344.toInt = 48 + x13.toInt := i_add (a := 48) (b := x13.toInt) ex344 rfl rfl (by omega) (by omega)
      refine ok_X12_put (by omega) (by omega) (fun r345_0 r345_1 f126 => ?_)
      exact j_482 r345_0 v_opened r345_1 (by omega) (by omega) (by first | (have h9 := zrt_b (b := (220 * p1.toInt)) (k := p2.toInt) ex42 (by omega); have h8 := zvs_nn (k := p2.toInt) u0 (by omega) (by omega); omega) | (unfold zph at hz9; have h9 := zrt_b (b := (220 * p1.toInt)) (k := p2.toInt) ex42 (by omega); have h8 := zvs_nn (k := p2.toInt) u0 (by omega) (by omega); omega))
    · have f127 : x42.toInt = 8 := i_eq (a := x42.toInt) (b := 8) rfl rfl c43_5
      refine ok_X12_put (by omega) (by omega) (fun r354_0 r354_1 f128 => ?_)
      have f129 : x13.toInt ≤ 9 := by have h9 := zS_v9 (k := p2.toInt) u0 ex42 ex13 (by omega) (by omega) (by omega) (by omega) (by omega); omega
      intro x372 ex372
      have f130 : x372.toInt = 10 * p1.toInt := i_mul (a := 10) (b := p1.toInt) ex372 rfl rfl (by omega) (by omega)
      intro x375 ex375
      have f131 : x375.toInt = x372.toInt + x13.toInt := i_add (a := x372.toInt) (b := x13.toInt) ex375 rfl rfl (by omega) (by omega)
      refine ⟨i_in (by omega) (by omega), ?_⟩
      intro x376 ex376
      refine ⟨fun c377 => ?_, fun c377 => ?_⟩
      · have f132 : x376.toInt ≤ 0 := i_le (a := x376.toInt) (b := 0) rfl rfl c377
        exact j_482 r354_0 r354_0 r354_1 (by omega) (by omega) (by first | (have h9 := zrt_b (b := (220 * p1.toInt)) (k := p2.toInt) ex42 (by omega); have h8 := zvs_nn (k := p2.toInt) u0 (by omega) (by omega); omega) | (unfold zph at hz9; have h9 := zrt_b (b := (220 * p1.toInt)) (k := p2.toInt) ex42 (by omega); have h8 := zvs_nn (k := p2.toInt) u0 (by omega) (by omega); omega))
      · have f133 : 0 < x376.toInt := i_nle (a := x376.toInt) (b := 0) rfl rfl c377
        refine ok_X12_put (by omega) (by omega) (fun r383_0 r383_1 f134 => ?_)
        intro x394 ex394
        have f135 : x394.toInt = 10 * p1.toInt := i_mul (a := 10) (b := p1.toInt) ex394 rfl rfl (by omega) (by omega)
        intro x397 ex397
        have f136 : x397.toInt = x394.toInt + x13.toInt := i_add (a := x394.toInt) (b := x13.toInt) ex397 rfl rfl (by omega) (by omega)
        refine ⟨i_in (by omega) (by omega), ?_⟩
        intro x398 ex398
        refine ok_X12_put (by omega) (by omega) (fun r399_0 r399_1 f137 => ?_)
        exact j_482 r399_0 r354_0 r399_1 (by omega) (by omega) (by first | (have h9 := zrt_b (b := (220 * p1.toInt)) (k := p2.toInt) ex42 (by omega); have h8 := zvs_nn (k := p2.toInt) u0 (by omega) (by omega); omega) | (unfold zph at hz9; have h9 := zrt_b (b := (220 * p1.toInt)) (k := p2.toInt) ex42 (by omega); have h8 := zvs_nn (k := p2.toInt) u0 (by omega) (by omega); omega))
    · have f138 : x42.toInt = 9 := i_eq (a := x42.toInt) (b := 9) rfl rfl c43_6
      refine ok_X12_put (by omega) (by omega) (fun r408_0 r408_1 f139 => ?_)
      have j_446 : ∀ (s0_446 : Int32), 32 ≤ s0_446.toInt → s0_446.toInt ≤ 126 → w_X12_printHead_446 Q s0_446 r408_0 v_opened r408_1 := by
        intro s0_446 f140 f141
        unfold w_X12_printHead_446
        refine ok_X12_put (by omega) (by omega) (fun r446_0 r446_1 f142 => ?_)
        exact j_482 r446_0 v_opened r446_1 (by omega) (by omega) (by first | (have h9 := zrt_b (b := (220 * p1.toInt)) (k := p2.toInt) ex42 (by omega); have h8 := zvs_nn (k := p2.toInt) u0 (by omega) (by omega); omega) | (unfold zph at hz9; have h9 := zrt_b (b := (220 * p1.toInt)) (k := p2.toInt) ex42 (by omega); have h8 := zvs_nn (k := p2.toInt) u0 (by omega) (by omega); omega))
      refine ⟨fun c414 => ?_, fun c414 => ?_⟩
      · have f143 : x13.toInt ≠ 0 := i_ne (a := x13.toInt) (b := 0) rfl rfl c414
        refine ⟨fun c425 => ?_, fun c425 => ?_⟩
        · have f144 : x13.toInt ≠ 1 := i_ne (a := x13.toInt) (b := 1) rfl rfl c425
          refine ⟨fun c436 => ?_, fun c436 => ?_⟩
          · have f145 : x13.toInt ≠ 2 := i_ne (a := x13.toInt) (b := 2) rfl rfl c436
            exact j_446 126 (by omega) (by omega)
          · have f146 : x13.toInt = 2 := i_eq (a := x13.toInt) (b := 2) rfl rfl c436
            exact j_446 60 (by omega) (by omega)
        · have f147 : x13.toInt = 1 := i_eq (a := x13.toInt) (b := 1) rfl rfl c425
          exact j_446 33 (by omega) (by omega)
      · have f148 : x13.toInt = 0 := i_eq (a := x13.toInt) (b := 0) rfl rfl c414
        exact j_446 61 (by omega) (by omega)
    · have f149 : x42.toInt = 10 := i_eq (a := x42.toInt) (b := 10) rfl rfl c43_7
      refine ok_X12_put (by omega) (by omega) (fun r455_0 r455_1 f150 => ?_)
      refine ok_X12_put (by omega) (by omega) (fun r461_0 r461_1 f151 => ?_)
      exact j_482 r461_0 v_opened r461_1 (by omega) (by omega) (by first | (have h9 := zrt_b (b := (220 * p1.toInt)) (k := p2.toInt) ex42 (by omega); have h8 := zvs_nn (k := p2.toInt) u0 (by omega) (by omega); omega) | (unfold zph at hz9; have h9 := zrt_b (b := (220 * p1.toInt)) (k := p2.toInt) ex42 (by omega); have h8 := zvs_nn (k := p2.toInt) u0 (by omega) (by omega); omega))
    · have f152 : x42.toInt = 11 := i_eq (a := x42.toInt) (b := 11) rfl rfl c43_8
      refine ok_X12_put (by omega) (by omega) (fun r470_0 r470_1 f153 => ?_)
      refine ok_X12_put (by omega) (by omega) (fun r476_0 r476_1 f154 => ?_)
      exact j_482 r476_0 v_opened r476_1 (by omega) (by omega) (by first | (have h9 := zrt_b (b := (220 * p1.toInt)) (k := p2.toInt) ex42 (by omega); have h8 := zvs_nn (k := p2.toInt) u0 (by omega) (by omega); omega) | (unfold zph at hz9; have h9 := zrt_b (b := (220 * p1.toInt)) (k := p2.toInt) ex42 (by omega); have h8 := zvs_nn (k := p2.toInt) u0 (by omega) (by omega); omega))
    · intro c43_0 c43_1 c43_2 c43_3 c43_4 c43_5 c43_6 c43_7 c43_8
      have f155 : x42.toInt ≠ 0 := i_ne (a := x42.toInt) (b := 0) rfl rfl c43_0
      have f156 : x42.toInt ≠ 1 := i_ne (a := x42.toInt) (b := 1) rfl rfl c43_1
      have f157 : x42.toInt ≠ 2 := i_ne (a := x42.toInt) (b := 2) rfl rfl c43_2
      have f158 : x42.toInt ≠ 3 := i_ne (a := x42.toInt) (b := 3) rfl rfl c43_3
      have f159 : x42.toInt ≠ 4 := i_ne (a := x42.toInt) (b := 4) rfl rfl c43_4
      have f160 : x42.toInt ≠ 8 := i_ne (a := x42.toInt) (b := 8) rfl rfl c43_5
      have f161 : x42.toInt ≠ 9 := i_ne (a := x42.toInt) (b := 9) rfl rfl c43_6
      have f162 : x42.toInt ≠ 10 := i_ne (a := x42.toInt) (b := 10) rfl rfl c43_7
      have f163 : x42.toInt ≠ 11 := i_ne (a := x42.toInt) (b := 11) rfl rfl c43_8
      exact j_482 v_printedMany_37 v_opened v_printed_37 (by omega) (by omega) (by first | (have h9 := zrt_b (b := (220 * p1.toInt)) (k := p2.toInt) ex42 (by omega); have h8 := zvs_nn (k := p2.toInt) u0 (by omega) (by omega); omega) | (unfold zph at hz9; have h9 := zrt_b (b := (220 * p1.toInt)) (k := p2.toInt) ex42 (by omega); have h8 := zvs_nn (k := p2.toInt) u0 (by omega) (by omega); omega))
  refine ⟨fun c22 => ?_, fun c22 => ?_⟩
  · have f164 : r19.toInt = 0 := i_eq (a := r19.toInt) (b := 0) rfl rfl c22
    exact j_37 v_printedMany v_printed (by omega) (by omega) (by omega)
  · have f165 : r19.toInt ≠ 0 := i_ne (a := r19.toInt) (b := 0) rfl rfl c22
    refine ok_X12_put (by omega) (by omega) (fun r28_0 r28_1 f166 => ?_)
    refine ok_X12_put (by omega) (by omega) (fun r34_0 r34_1 f167 => ?_)
    exact j_37 r34_0 r34_1 (by omega) (by omega) (by omega)
