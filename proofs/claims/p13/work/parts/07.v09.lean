set_option maxHeartbeats 4000000 in
theorem ok_X12_isPlain {p0 : Int32} {Q : Int32 → Prop} (hq : ∀ (r : Int32), 0 ≤ r.toInt → r.toInt ≤ 1 → ((r.toInt = 1) ∨ (r.toInt = 0)) → Q r) : w_X12_isPlain p0 Q := by
  have q_t : (bz true).toInt = 1 := rfl
  have q_f : (bz false).toInt = 0 := rfl
  have q_0 : (0 : Int32).toInt = 0 := rfl
  have q_1 : (1 : Int32).toInt = 1 := rfl
  unfold w_X12_isPlain
  have j_89 : ∀ (s0_89 : Int32), 0 ≤ s0_89.toInt → s0_89.toInt ≤ 1 → ((s0_89.toInt = 1) ∨ (s0_89.toInt = 0)) → w_X12_isPlain_89 Q s0_89 := by
    intro s0_89 f1 f2 f3
    unfold w_X12_isPlain_89
    refine ⟨i_01 (by omega) (by omega), ?_⟩
    exact hq s0_89 (by omega) (by omega) (by omega)
  have j_88 : w_X12_isPlain_88 Q := by
    unfold w_X12_isPlain_88
    exact j_89 0 (by omega) (by omega) (by omega)
  refine ⟨fun c3 => ?_, fun c3 => ?_⟩
  · have f4 : p0.toInt = 92 := i_eq (a := p0.toInt) (b := 92) rfl rfl c3
    exact j_88  
  · have f5 : p0.toInt ≠ 92 := i_ne (a := p0.toInt) (b := 92) rfl rfl c3
    refine ⟨fun c9 => ?_, fun c9 => ?_⟩
    · have f6 : p0.toInt = 124 := i_eq (a := p0.toInt) (b := 124) rfl rfl c9
      exact j_88  
    · have f7 : p0.toInt ≠ 124 := i_ne (a := p0.toInt) (b := 124) rfl rfl c9
      refine ⟨fun c15 => ?_, fun c15 => ?_⟩
      · have f8 : p0.toInt = 42 := i_eq (a := p0.toInt) (b := 42) rfl rfl c15
        exact j_88  
      · have f9 : p0.toInt ≠ 42 := i_ne (a := p0.toInt) (b := 42) rfl rfl c15
        refine ⟨fun c21 => ?_, fun c21 => ?_⟩
        · have f10 : p0.toInt = 43 := i_eq (a := p0.toInt) (b := 43) rfl rfl c21
          exact j_88  
        · have f11 : p0.toInt ≠ 43 := i_ne (a := p0.toInt) (b := 43) rfl rfl c21
          refine ⟨fun c27 => ?_, fun c27 => ?_⟩
          · have f12 : p0.toInt = 63 := i_eq (a := p0.toInt) (b := 63) rfl rfl c27
            exact j_88  
          · have f13 : p0.toInt ≠ 63 := i_ne (a := p0.toInt) (b := 63) rfl rfl c27
            refine ⟨fun c33 => ?_, fun c33 => ?_⟩
            · have f14 : p0.toInt = 123 := i_eq (a := p0.toInt) (b := 123) rfl rfl c33
              exact j_88  
            · have f15 : p0.toInt ≠ 123 := i_ne (a := p0.toInt) (b := 123) rfl rfl c33
              refine ⟨fun c39 => ?_, fun c39 => ?_⟩
              · have f16 : p0.toInt = 125 := i_eq (a := p0.toInt) (b := 125) rfl rfl c39
                exact j_88  
              · have f17 : p0.toInt ≠ 125 := i_ne (a := p0.toInt) (b := 125) rfl rfl c39
                refine ⟨fun c45 => ?_, fun c45 => ?_⟩
                · have f18 : p0.toInt = 40 := i_eq (a := p0.toInt) (b := 40) rfl rfl c45
                  exact j_88  
                · have f19 : p0.toInt ≠ 40 := i_ne (a := p0.toInt) (b := 40) rfl rfl c45
                  refine ⟨fun c51 => ?_, fun c51 => ?_⟩
                  · have f20 : p0.toInt = 41 := i_eq (a := p0.toInt) (b := 41) rfl rfl c51
                    exact j_88  
                  · have f21 : p0.toInt ≠ 41 := i_ne (a := p0.toInt) (b := 41) rfl rfl c51
                    refine ⟨fun c57 => ?_, fun c57 => ?_⟩
                    · have f22 : p0.toInt = 91 := i_eq (a := p0.toInt) (b := 91) rfl rfl c57
                      exact j_88  
                    · have f23 : p0.toInt ≠ 91 := i_ne (a := p0.toInt) (b := 91) rfl rfl c57
                      refine ⟨fun c63 => ?_, fun c63 => ?_⟩
                      · have f24 : p0.toInt = 93 := i_eq (a := p0.toInt) (b := 93) rfl rfl c63
                        exact j_88  
                      · have f25 : p0.toInt ≠ 93 := i_ne (a := p0.toInt) (b := 93) rfl rfl c63
                        refine ⟨fun c69 => ?_, fun c69 => ?_⟩
                        · have f26 : p0.toInt = 46 := i_eq (a := p0.toInt) (b := 46) rfl rfl c69
                          exact j_88  
                        · have f27 : p0.toInt ≠ 46 := i_ne (a := p0.toInt) (b := 46) rfl rfl c69
                          refine ⟨fun c75 => ?_, fun c75 => ?_⟩
                          · have f28 : p0.toInt = 94 := i_eq (a := p0.toInt) (b := 94) rfl rfl c75
                            exact j_88  
                          · have f29 : p0.toInt ≠ 94 := i_ne (a := p0.toInt) (b := 94) rfl rfl c75
                            refine ⟨fun c81 => ?_, fun c81 => ?_⟩
                            · have f30 : p0.toInt = 36 := i_eq (a := p0.toInt) (b := 36) rfl rfl c81
                              exact j_88  
                            · have f31 : p0.toInt ≠ 36 := i_ne (a := p0.toInt) (b := 36) rfl rfl c81
                              exact j_89 1 (by omega) (by omega) (by omega)
set_option maxHeartbeats 4000000 in
theorem ok_X12_isMark {p0 : Int32} {Q : Int32 → Prop} (hq : ∀ (r : Int32), 0 ≤ r.toInt → r.toInt ≤ 1 → ((r.toInt = 0) ∨ (r.toInt = 1)) → Q r) : w_X12_isMark p0 Q := by
  have q_t : (bz true).toInt = 1 := rfl
  have q_f : (bz false).toInt = 0 := rfl
  have q_0 : (0 : Int32).toInt = 0 := rfl
  have q_1 : (1 : Int32).toInt = 1 := rfl
  unfold w_X12_isMark
  have j_53 : ∀ (s0_53 : Int32), 0 ≤ s0_53.toInt → s0_53.toInt ≤ 1 → ((s0_53.toInt = 0) ∨ (s0_53.toInt = 1)) → w_X12_isMark_53 Q s0_53 := by
    intro s0_53 f1 f2 f3
    unfold w_X12_isMark_53
    refine ⟨i_01 (by omega) (by omega), ?_⟩
    exact hq s0_53 (by omega) (by omega) (by omega)
  have j_48 : w_X12_isMark_48 Q := by
    unfold w_X12_isMark_48
    exact j_53 1 (by omega) (by omega) (by omega)
  refine ⟨fun c3 => ?_, fun c3 => ?_⟩
  · have f4 : p0.toInt = 58 := i_eq (a := p0.toInt) (b := 58) rfl rfl c3
    exact j_48  
  · have f5 : p0.toInt ≠ 58 := i_ne (a := p0.toInt) (b := 58) rfl rfl c3
    refine ⟨fun c9 => ?_, fun c9 => ?_⟩
    · have f6 : p0.toInt = 61 := i_eq (a := p0.toInt) (b := 61) rfl rfl c9
      exact j_48  
    · have f7 : p0.toInt ≠ 61 := i_ne (a := p0.toInt) (b := 61) rfl rfl c9
      refine ⟨fun c15 => ?_, fun c15 => ?_⟩
      · have f8 : p0.toInt = 33 := i_eq (a := p0.toInt) (b := 33) rfl rfl c15
        exact j_48  
      · have f9 : p0.toInt ≠ 33 := i_ne (a := p0.toInt) (b := 33) rfl rfl c15
        refine ⟨fun c21 => ?_, fun c21 => ?_⟩
        · have f10 : p0.toInt = 60 := i_eq (a := p0.toInt) (b := 60) rfl rfl c21
          exact j_48  
        · have f11 : p0.toInt ≠ 60 := i_ne (a := p0.toInt) (b := 60) rfl rfl c21
          refine ⟨fun c27 => ?_, fun c27 => ?_⟩
          · have f12 : p0.toInt = 126 := i_eq (a := p0.toInt) (b := 126) rfl rfl c27
            exact j_48  
          · have f13 : p0.toInt ≠ 126 := i_ne (a := p0.toInt) (b := 126) rfl rfl c27
            refine ⟨fun c33 => ?_, fun c33 => ?_⟩
            · have f14 : p0.toInt = 37 := i_eq (a := p0.toInt) (b := 37) rfl rfl c33
              exact j_48  
            · have f15 : p0.toInt ≠ 37 := i_ne (a := p0.toInt) (b := 37) rfl rfl c33
              refine ⟨fun c39 => ?_, fun c39 => ?_⟩
              · have f16 : p0.toInt = 64 := i_eq (a := p0.toInt) (b := 64) rfl rfl c39
                exact j_48  
              · have f17 : p0.toInt ≠ 64 := i_ne (a := p0.toInt) (b := 64) rfl rfl c39
                refine ⟨fun c45 => ?_, fun c45 => ?_⟩
                · have f18 : p0.toInt ≠ 35 := i_ne (a := p0.toInt) (b := 35) rfl rfl c45
                  exact j_53 0 (by omega) (by omega) (by omega)
                · have f19 : p0.toInt = 35 := i_eq (a := p0.toInt) (b := 35) rfl rfl c45
                  exact j_48  
set_option maxHeartbeats 4000000 in
theorem ok_X12_printHead {p1 : Int32} {p2 : Int32} {v_printedMany : Int32} {v_opened : Int32} {v_nameOf : Nat → Int32} {v_sort : Nat → Int32} {v_value : Nat → Int32} {v_holder : Nat → Int32} {v_parts : Nat → Int32} {v_firstPart : Nat → Int32} {v_partBegin : Nat → Int32} {v_partEnd : Nat → Int32} {v_printed : Nat → Int32} {v_least : Nat → Int32} {v_most : Nat → Int32} {v_end : Nat → Int32} {v_many : Nat → Int32} {v_captures : Nat → Int32} {Q : Int32 → Int32 → (Nat → Int32) → Prop} (a0 : 0 ≤ p1.toInt) (a1 : p1.toInt ≤ 5) (a2 : 0 ≤ p2.toInt) (a3 : 0 ≤ v_printedMany.toInt) (u0 : zSl v_sort v_value v_least v_most v_holder v_parts v_end v_firstPart v_partBegin v_partEnd (220 * p1.toInt) (420 * p1.toInt) (zg v_many p1.toInt) (zg v_captures p1.toInt)) (u1 : p2.toInt < zg v_many p1.toInt) (u2 : v_printedMany.toInt + 20 + zvs v_sort v_value v_parts v_firstPart v_partBegin v_partEnd (220 * p1.toInt) (420 * p1.toInt) p2.toInt ≤ 4000) (hq : ∀ (ov_printedMany : Int32) (ov_opened : Int32) (ov_printed : Nat → Int32), v_printedMany.toInt ≤ ov_printedMany.toInt → ov_printedMany.toInt ≤ 3999 → (ov_printedMany.toInt + zrt v_sort (220 * p1.toInt) p2.toInt ≤ v_printedMany.toInt + 11 + zvs v_sort v_value v_parts v_firstPart v_partBegin v_partEnd (220 * p1.toInt) (420 * p1.toInt) p2.toInt) → Q ov_printedMany ov_opened ov_printed) : w_X12_printHead p1 p2 v_printedMany v_opened v_nameOf v_sort v_value v_holder v_parts v_firstPart v_partBegin v_partEnd v_printed Q := by
  have q_t : (bz true).toInt = 1 := rfl
  have q_f : (bz false).toInt = 0 := rfl
  have q_32 : (32 : Int32).toInt = 32 := rfl
  have q_33 : (33 : Int32).toInt = 33 := rfl
  have q_36 : (36 : Int32).toInt = 36 := rfl
  have q_37 : (37 : Int32).toInt = 37 := rfl
  have q_40 : (40 : Int32).toInt = 40 := rfl
  have q_42 : (42 : Int32).toInt = 42 := rfl
  have q_45 : (45 : Int32).toInt = 45 := rfl
  have q_46 : (46 : Int32).toInt = 46 := rfl
  have q_58 : (58 : Int32).toInt = 58 := rfl
  have q_60 : (60 : Int32).toInt = 60 := rfl
  have q_61 : (61 : Int32).toInt = 61 := rfl
  have q_64 : (64 : Int32).toInt = 64 := rfl
  have q_66 : (66 : Int32).toInt = 66 := rfl
  have q_91 : (91 : Int32).toInt = 91 := rfl
  have q_92 : (92 : Int32).toInt = 92 := rfl
  have q_93 : (93 : Int32).toInt = 93 := rfl
  have q_94 : (94 : Int32).toInt = 94 := rfl
  have q_98 : (98 : Int32).toInt = 98 := rfl
  have q_126 : (126 : Int32).toInt = 126 := rfl
  unfold w_X12_printHead
  have f1 : 1 ≤ (zg v_many p1.toInt : Int) := (zS_n u0).1
  have f2 : (zg v_many p1.toInt : Int) ≤ 220 := (zS_n u0).2
  have f3 : 0 ≤ (zg v_captures p1.toInt : Int) := (zS_c u0).1
  have f4 : (zg v_captures p1.toInt : Int) ≤ 9 := (zS_c u0).2
  have f5 : p2.toInt + 1 ≤ (zg v_many p1.toInt : Int) := u1
  have f6 : v_printedMany.toInt ≤ 3980 := by have h8 := zvs_nn (k := p2.toInt) u0 (by omega) (by omega); omega
  intro x4 ex4
  have f7 : x4.toInt = 220 * p1.toInt := i_mul (a := 220) (b := p1.toInt) ex4 rfl rfl (by omega) (by omega)
  intro x6 ex6
  have f8 : x6.toInt = x4.toInt + p2.toInt := i_add (a := x4.toInt) (b := p2.toInt) ex6 rfl rfl (by omega) (by omega)
  refine ⟨i_in (by omega) (by omega), ?_⟩
  intro x13 ex13
  have f9 : 0 ≤ x13.toInt ∧ x13.toInt ≤ 65535 := by have h9 := zS_value (k := (-220) * p1.toInt + x6.toInt) u0 ex13 (by omega) (by omega) (by omega); omega
  have f10 : ((x13.toInt ≤ 9) ∨ (x13.toInt ≤ 65535)) := by omega
  refine ok_X12_isWrapped (v_value := v_value) (v_least := v_least) (v_most := v_most) (v_parts := v_parts) (v_end := v_end) (v_firstPart := v_firstPart) (v_partBegin := v_partBegin) (v_partEnd := v_partEnd) (v_many := v_many) (v_captures := v_captures) (by omega) (by omega) (by omega) (by first | assumption | omega) (by first | assumption | omega) (fun r19 f11 f12 f13 u19_0 => ?_)
  have j_37 : ∀ (v_printedMany_37 : Int32) (v_printed_37 : Nat → Int32), v_printedMany.toInt ≤ v_printedMany_37.toInt → v_printedMany_37.toInt ≤ v_printedMany.toInt + 2 → ((v_printedMany_37.toInt = v_printedMany.toInt ∧ r19.toInt = 0) ∨ (v_printedMany_37.toInt = v_printedMany.toInt + 2)) → w_X12_printHead_37 p1 v_nameOf v_sort v_parts v_firstPart v_partBegin v_partEnd Q x6 x13 v_printedMany_37 v_opened v_printed_37 := by
    intro v_printedMany_37 v_printed_37 f14 f15 f16
    unfold w_X12_printHead_37
    refine ⟨i_in (by omega) (by omega), ?_⟩
    intro x42 ex42
    have f17 : 0 ≤ x42.toInt ∧ x42.toInt ≤ 11 := by have h9 := zS_sort (k := (-220) * p1.toInt + x6.toInt) u0 ex42 (by omega) (by omega) (by omega); omega
    have j_482 : ∀ (v_printedMany_482 : Int32) (v_opened_482 : Int32) (v_printed_482 : Nat → Int32), v_printedMany.toInt ≤ v_printedMany_482.toInt → v_printedMany_482.toInt ≤ 3999 → (v_printedMany_482.toInt + zrt v_sort (220 * p1.toInt) p2.toInt ≤ v_printedMany.toInt + 11 + zvs v_sort v_value v_parts v_firstPart v_partBegin v_partEnd (220 * p1.toInt) (420 * p1.toInt) p2.toInt) → w_X12_printHead_482 Q v_printedMany_482 v_opened_482 v_printed_482 := by
      intro v_printedMany_482 v_opened_482 v_printed_482 f18 f19 u482_0
      unfold w_X12_printHead_482
      exact hq v_printedMany_482 v_opened_482 v_printed_482 (by omega) (by omega) (by assumption)
    refine ⟨fun c43_0 => ?_, fun c43_1 => ?_, fun c43_2 => ?_, fun c43_3 => ?_, fun c43_4 => ?_, fun c43_5 => ?_, fun c43_6 => ?_, fun c43_7 => ?_, fun c43_8 => ?_, ?_⟩
    · have f20 : x42.toInt = 0 := i_eq (a := x42.toInt) (b := 0) rfl rfl c43_0
      refine ok_X12_in  (fun r110 f21 f22 f23 f24 f25 f26 => ?_)
      have j_135 : ((r110.toInt = 0) ∨ (v_printedMany_37.toInt = v_opened.toInt)) → w_X12_printHead_135 Q x13 v_printedMany_37 v_opened v_printed_37 := by
        intro f27
        unfold w_X12_printHead_135
        refine ok_X12_putHex (by omega) (by omega) (fun r138_0 r138_1 f28 f29 f30 f31 f32 f33 f34 f35 f36 f37 f38 f39 f40 f41 f42 f43 f44 => ?_)
        exact j_482 r138_0 v_opened r138_1 (by omega) (by omega) (by first | (have h9 := zrt_b (b := (220 * p1.toInt)) (k := p2.toInt) ex42 (by omega); have h8 := zvs_nn (k := p2.toInt) u0 (by omega) (by omega); omega) | (unfold zph at hz9; have h9 := zrt_b (b := (220 * p1.toInt)) (k := p2.toInt) ex42 (by omega); have h8 := zvs_nn (k := p2.toInt) u0 (by omega) (by omega); omega))
      refine ⟨fun c113 => ?_, fun c113 => ?_⟩
      · have f45 : r110.toInt = 0 := i_eq (a := r110.toInt) (b := 0) rfl rfl c113
        exact j_135  (by omega)
      · have f46 : r110.toInt ≠ 0 := i_ne (a := r110.toInt) (b := 0) rfl rfl c113
        have j_144 : w_X12_printHead_144 Q x13 v_printedMany_37 v_opened v_printed_37 := by
          unfold w_X12_printHead_144
          refine ok_X12_isPlain  (fun r146 f47 f48 f49 => ?_)
          have j_158 : ∀ (v_printedMany_158 : Int32) (v_printed_158 : Nat → Int32), v_printedMany.toInt ≤ v_printedMany_158.toInt → v_printedMany_158.toInt ≤ v_printedMany.toInt + 3 → ((v_printedMany_158.toInt = v_printedMany_37.toInt) ∨ (r146.toInt = 0 ∧ v_printedMany_158.toInt = v_printedMany_37.toInt + 1)) → w_X12_printHead_158 Q x13 v_printedMany_158 v_opened v_printed_158 := by
            intro v_printedMany_158 v_printed_158 f50 f51 f52
            unfold w_X12_printHead_158
            refine ok_X12_put (by omega) (by omega) (fun r161_0 r161_1 f53 => ?_)
            exact j_482 r161_0 v_opened r161_1 (by omega) (by omega) (by first | (have h9 := zrt_b (b := (220 * p1.toInt)) (k := p2.toInt) ex42 (by omega); have h8 := zvs_nn (k := p2.toInt) u0 (by omega) (by omega); omega) | (unfold zph at hz9; have h9 := zrt_b (b := (220 * p1.toInt)) (k := p2.toInt) ex42 (by omega); have h8 := zvs_nn (k := p2.toInt) u0 (by omega) (by omega); omega))
          refine ⟨fun c149 => ?_, fun c149 => ?_⟩
          · have f54 : r146.toInt ≠ 0 := i_ne (a := r146.toInt) (b := 0) rfl rfl c149
            exact j_158 v_printedMany_37 v_printed_37 (by omega) (by omega) (by omega)
          · have f55 : r146.toInt = 0 := i_eq (a := r146.toInt) (b := 0) rfl rfl c149
            refine ok_X12_put (by omega) (by omega) (fun r155_0 r155_1 f56 => ?_)
            exact j_158 r155_0 r155_1 (by omega) (by omega) (by omega)
        refine ⟨fun c124 => ?_, fun c124 => ?_⟩
        · have f57 : v_printedMany_37.toInt ≠ v_opened.toInt := i_ne (a := v_printedMany_37.toInt) (b := v_opened.toInt) rfl rfl c124
          exact j_144  
        · have f58 : v_printedMany_37.toInt = v_opened.toInt := i_eq (a := v_printedMany_37.toInt) (b := v_opened.toInt) rfl rfl c124
          refine ok_X12_isMark  (fun r129 f59 f60 f61 => ?_)
          refine ⟨fun c132 => ?_, fun c132 => ?_⟩
          · have f62 : r129.toInt = 0 := i_eq (a := r129.toInt) (b := 0) rfl rfl c132
            exact j_144  
          · have f63 : r129.toInt ≠ 0 := i_ne (a := r129.toInt) (b := 0) rfl rfl c132
            exact j_135  (by omega)
    · have f64 : x42.toInt = 1 := i_eq (a := x42.toInt) (b := 1) rfl rfl c43_1
      refine ok_X12_put (by omega) (by omega) (fun r170_0 r170_1 f65 => ?_)
      exact j_482 r170_0 v_opened r170_1 (by omega) (by omega) (by first | (have h9 := zrt_b (b := (220 * p1.toInt)) (k := p2.toInt) ex42 (by omega); have h8 := zvs_nn (k := p2.toInt) u0 (by omega) (by omega); omega) | (unfold zph at hz9; have h9 := zrt_b (b := (220 * p1.toInt)) (k := p2.toInt) ex42 (by omega); have h8 := zvs_nn (k := p2.toInt) u0 (by omega) (by omega); omega))
    · have f66 : x42.toInt = 2 := i_eq (a := x42.toInt) (b := 2) rfl rfl c43_2
      refine ok_X12_put (by omega) (by omega) (fun r179_0 r179_1 f67 => ?_)
      have j_194 : ∀ (v_printedMany_194 : Int32) (v_printed_194 : Nat → Int32), v_printedMany.toInt ≤ v_printedMany_194.toInt → v_printedMany_194.toInt ≤ v_printedMany.toInt + 4 → ((v_printedMany_194.toInt = r179_0.toInt) ∨ (x13.toInt = 1 ∧ v_printedMany_194.toInt = r179_0.toInt + 1)) → w_X12_printHead_194 v_parts v_firstPart v_partBegin v_partEnd Q x6 v_printedMany_194 v_opened v_printed_194 := by
        intro v_printedMany_194 v_printed_194 f68 f69 f70
        unfold w_X12_printHead_194
        refine ⟨i_in (by omega) (by omega), ?_⟩
        intro x199 ex199
        have f71 : (420 * p1.toInt ≤ x199.toInt ∧ x199.toInt ≤ 420 * p1.toInt + 420) := zS_fp0 (k := p2.toInt) u0 ex199 (by omega) (by omega) (by omega) (by rw [← zg_at ex42]; omega)
        have j_202 : ∀ n_202 : Nat, ∀ (l5_202 : Int32) (v_printedMany_202 : Int32) (v_printed_202 : Nat → Int32), l5_202.toInt ≤ 2520 → x199.toInt ≤ l5_202.toInt → v_printedMany_202.toInt ≤ 3999 → v_printedMany_194.toInt ≤ v_printedMany_202.toInt → (zph v_partBegin v_partEnd (420 * p1.toInt) v_printedMany.toInt v_printedMany_202.toInt l5_202.toInt x199.toInt) → (l5_202.toInt ≤ x199.toInt + zg v_parts x6.toInt) → ((-1) * l5_202.toInt + 2147483648).toNat < n_202 → w_X12_printHead_202 v_parts v_firstPart v_partBegin v_partEnd Q x6 v_opened n_202 l5_202 v_printedMany_202 v_printed_202 := by
          intro n_202
          induction n_202 with
          | zero =>
            intro l5_202 v_printedMany_202 v_printed_202 f72 f73 f74 f75 u202_0 u202_1 hm_202
            exfalso; omega
          | succ n_202 ih_202 =>
            intro l5_202 v_printedMany_202 v_printed_202 f72 f73 f74 f75 u202_0 u202_1 hm_202
            unfold w_X12_printHead_202
            unfold w_X12_printHead_202B
            refine ⟨i_in (by omega) (by omega), ?_⟩
            intro x209 ex209
            have f76 : x209.toInt = x199.toInt := congrArg Int32.toInt (ex209.trans ex199.symm)
            refine ⟨i_in (by omega) (by omega), ?_⟩
            intro x215 ex215
            have f77 : (420 * p1.toInt ≤ x209.toInt ∧ 0 ≤ x215.toInt ∧ x209.toInt + x215.toInt ≤ 420 * p1.toInt + 420) := zS_fp (k := p2.toInt) u0 ex209 ex215 (by omega) (by omega) (by omega) (by omega) (by rw [← zg_at ex42]; omega)
            intro x216 ex216
            have f78 : x216.toInt = x209.toInt + x215.toInt := i_add (a := x209.toInt) (b := x215.toInt) ex216 rfl rfl (by omega) (by omega)
            refine ⟨fun c217 => ?_, fun c217 => ?_⟩
            · have f79 : x216.toInt ≤ l5_202.toInt := i_le (a := x216.toInt) (b := l5_202.toInt) rfl rfl c217
              have hv9 := zvs_set (pa := v_parts) (b := (220 * p1.toInt)) (va := v_value) (pb := v_partBegin) (pe := v_partEnd) (q := (420 * p1.toInt)) (k := p2.toInt) (j := x199.toInt) (l := l5_202.toInt) ex42 (by omega) (by omega) ex199 rfl (by have hw9 := zg_at2 (k := x6.toInt) ex215 (by omega); omega)
              have hw9 := zg_at2 (k := x6.toInt) ex215 (by omega)
              have hz9 := u202_0
              have f80 : v_printedMany_202.toInt ≤ 3984 := by unfold zph at hz9; omega
              refine ok_X12_put (by omega) (by omega) (fun r274_0 r274_1 f81 => ?_)
              exact j_482 r274_0 v_opened r274_1 (by omega) (by omega) (by first | (have h9 := zrt_b (b := (220 * p1.toInt)) (k := p2.toInt) ex42 (by omega); have h8 := zvs_nn (k := p2.toInt) u0 (by omega) (by omega); omega) | (unfold zph at hz9; have h9 := zrt_b (b := (220 * p1.toInt)) (k := p2.toInt) ex42 (by omega); have h8 := zvs_nn (k := p2.toInt) u0 (by omega) (by omega); omega))
            · have f82 : l5_202.toInt < x216.toInt := i_nle (a := x216.toInt) (b := l5_202.toInt) rfl rfl c217
              have hv9 := zvs_set (pa := v_parts) (b := (220 * p1.toInt)) (va := v_value) (pb := v_partBegin) (pe := v_partEnd) (q := (420 * p1.toInt)) (k := p2.toInt) (j := x199.toInt) (l := x199.toInt + zg v_parts x6.toInt) ex42 (by omega) (by omega) ex199 rfl rfl
              have hw9 := zg_at2 (k := x6.toInt) ex215 (by omega)
              have hy9 := zml_mono (pb := v_partBegin) (pe := v_partEnd) (q := (420 * p1.toInt)) (j := x199.toInt) (show l5_202.toInt ≤ x199.toInt + zg v_parts x6.toInt by omega)
              have hz9 := u202_0
              have f83 : v_printedMany_202.toInt ≤ 3979 := by unfold zph at hz9; omega
              refine ⟨i_in (by omega) (by omega), ?_⟩
              intro x227 ex227
              refine ok_X12_putMember (by omega) (by omega) (fun r228_0 r228_1 f84 f85 f86 f87 f88 => ?_)
              refine ⟨i_in (by omega) (by omega), ?_⟩
              intro x237 ex237
              refine ⟨i_in (by omega) (by omega), ?_⟩
              intro x244 ex244
              have f89 : x244.toInt = x227.toInt := congrArg Int32.toInt (ex244.trans ex227.symm)
              have j_265 : ∀ (v_printedMany_265 : Int32) (v_printed_265 : Nat → Int32), v_printedMany.toInt ≤ v_printedMany_265.toInt → v_printedMany_202.toInt ≤ v_printedMany_265.toInt → v_printedMany_265.toInt ≤ v_printedMany_202.toInt + 13 → ((v_printedMany_265.toInt = r228_0.toInt) ∨ (r228_0.toInt + 1 ≤ v_printedMany_265.toInt ∧ 1 ≤ v_printedMany_265.toInt ∧ v_printedMany_265.toInt ≤ 4000 ∧ v_printedMany_265.toInt ≤ r228_0.toInt + 7)) → (v_printedMany_265.toInt ≤ r228_0.toInt + 7 ∧ (v_printedMany_265.toInt ≤ r228_0.toInt + 3 ∨ x237.toInt < 32 ∨ 126 < x237.toInt)) → w_X12_printHead_265 Q (w_X12_printHead_202 v_parts v_firstPart v_partBegin v_partEnd Q x6 v_opened n_202) l5_202 v_printedMany_265 v_printed_265 := by
                intro v_printedMany_265 v_printed_265 f90 f91 f92 f93 u265_0
                unfold w_X12_printHead_265
                intro x265 ex265
                have f94 : x265.toInt = l5_202.toInt + 1 := i_add (a := l5_202.toInt) (b := 1) ex265 rfl rfl (by omega) (by omega)
                exact ih_202 x265 v_printedMany_265 v_printed_265  (by omega) (by omega) (by omega) (by omega) (by first | exact zph_0 (by omega) | exact zph_s (a := r228_0.toInt) hz9 ex227 ex237 (by omega) (by omega) (by omega) (by omega) (by omega)) (by first | omega | (have h9 := zS_pa (k := p2.toInt) u0 (y := v_parts x6.toNatClampNeg) rfl (by omega) (by omega) (by omega) (by rw [← zg_at2 ex42 (by omega)]; omega); have h7 : (v_parts x6.toNatClampNeg).toInt = zg v_parts x6.toInt := rfl; omega)) (by have h8_0 := i_rng l5_202; have h8_1 := i_rng x265; omega)
              refine ⟨fun c245 => ?_, fun c245 => ?_⟩
              · have f95 : x237.toInt ≤ x244.toInt := i_le (a := x237.toInt) (b := x244.toInt) rfl rfl c245
                exact j_265 r228_0 r228_1 (by omega) (by omega) (by omega) (by omega) (by omega)
              · have f96 : x244.toInt < x237.toInt := i_nle (a := x237.toInt) (b := x244.toInt) rfl rfl c245
                refine ok_X12_put (by omega) (by omega) (fun r251_0 r251_1 f97 => ?_)
                refine ⟨i_in (by omega) (by omega), ?_⟩
                intro x261 ex261
                have f98 : x261.toInt = x237.toInt := congrArg Int32.toInt (ex261.trans ex237.symm)
                refine ok_X12_putMember (by omega) (by omega) (fun r262_0 r262_1 f99 f100 f101 f102 f103 => ?_)
                exact j_265 r262_0 r262_1 (by omega) (by omega) (by omega) (by omega) (by omega)
        exact ⟨((-1) * x199.toInt + 2147483648).toNat + 1, j_202   (((-1) * x199.toInt + 2147483648).toNat + 1) x199 v_printedMany_194 v_printed_194  (by omega) (by omega) (by omega) (by omega) (by first | exact zph_0 (by omega) | exact zph_s (a := r228_0.toInt) hz9 ex227 ex237 (by omega) (by omega) (by omega) (by omega) (by omega)) (by first | omega | (have h9 := zS_pa (k := p2.toInt) u0 (y := v_parts x6.toNatClampNeg) rfl (by omega) (by omega) (by omega) (by rw [← zg_at2 ex42 (by omega)]; omega); have h7 : (v_parts x6.toNatClampNeg).toInt = zg v_parts x6.toInt := rfl; omega)) (by omega)⟩
      refine ⟨fun c185 => ?_, fun c185 => ?_⟩
      · have f104 : x13.toInt ≠ 1 := i_ne (a := x13.toInt) (b := 1) rfl rfl c185
        exact j_194 r179_0 r179_1 (by omega) (by omega) (by omega)
      · have f105 : x13.toInt = 1 := i_eq (a := x13.toInt) (b := 1) rfl rfl c185
        refine ok_X12_put (by omega) (by omega) (fun r191_0 r191_1 f106 => ?_)
        exact j_194 r191_0 r191_1 (by omega) (by omega) (by omega)
    · have f107 : x42.toInt = 3 := i_eq (a := x42.toInt) (b := 3) rfl rfl c43_3
      have j_292 : ∀ (v_printedMany_292 : Int32) (v_printed_292 : Nat → Int32), v_printedMany.toInt ≤ v_printedMany_292.toInt → v_printedMany_292.toInt ≤ v_printedMany.toInt + 3 → ((v_printedMany_292.toInt = v_printedMany_37.toInt ∧ x13.toInt ≤ 1) ∨ (2 ≤ x13.toInt ∧ v_printedMany_292.toInt = v_printedMany_37.toInt + 1)) → w_X12_printHead_292 Q x13 v_printedMany_292 v_opened v_printed_292 := by
        intro v_printedMany_292 v_printed_292 f108 f109 f110
        unfold w_X12_printHead_292
        have j_327 : ∀ (s0_327 : Int32), 32 ≤ s0_327.toInt → s0_327.toInt ≤ 99 → w_X12_printHead_327 Q s0_327 v_printedMany_292 v_opened v_printed_292 := by
          intro s0_327 f111 f112
          unfold w_X12_printHead_327
          refine ok_X12_put (by omega) (by omega) (fun r327_0 r327_1 f113 => ?_)
          exact j_482 r327_0 v_opened r327_1 (by omega) (by omega) (by first | (have h9 := zrt_b (b := (220 * p1.toInt)) (k := p2.toInt) ex42 (by omega); have h8 := zvs_nn (k := p2.toInt) u0 (by omega) (by omega); omega) | (unfold zph at hz9; have h9 := zrt_b (b := (220 * p1.toInt)) (k := p2.toInt) ex42 (by omega); have h8 := zvs_nn (k := p2.toInt) u0 (by omega) (by omega); omega))
        refine ⟨fun c295 => ?_, fun c295 => ?_⟩
        · have f114 : x13.toInt ≠ 0 := i_ne (a := x13.toInt) (b := 0) rfl rfl c295
          refine ⟨fun c306 => ?_, fun c306 => ?_⟩
          · have f115 : x13.toInt ≠ 1 := i_ne (a := x13.toInt) (b := 1) rfl rfl c306
            refine ⟨fun c317 => ?_, fun c317 => ?_⟩
            · have f116 : x13.toInt ≠ 2 := i_ne (a := x13.toInt) (b := 2) rfl rfl c317
              exact j_327 66 (by omega) (by omega)
            · have f117 : x13.toInt = 2 := i_eq (a := x13.toInt) (b := 2) rfl rfl c317
              exact j_327 98 (by omega) (by omega)
          · have f118 : x13.toInt = 1 := i_eq (a := x13.toInt) (b := 1) rfl rfl c306
            exact j_327 36 (by omega) (by omega)
        · have f119 : x13.toInt = 0 := i_eq (a := x13.toInt) (b := 0) rfl rfl c295
          exact j_327 94 (by omega) (by omega)
      refine ⟨fun c283 => ?_, fun c283 => ?_⟩
      · have f120 : x13.toInt ≤ 1 := i_le (a := x13.toInt) (b := 1) rfl rfl c283
        exact j_292 v_printedMany_37 v_printed_37 (by omega) (by omega) (by omega)
      · have f121 : 1 < x13.toInt := i_nle (a := x13.toInt) (b := 1) rfl rfl c283
        refine ok_X12_put (by omega) (by omega) (fun r289_0 r289_1 f122 => ?_)
        exact j_292 r289_0 r289_1 (by omega) (by omega) (by omega)
    · have f123 : x42.toInt = 4 := i_eq (a := x42.toInt) (b := 4) rfl rfl c43_4
      refine ok_X12_put (by omega) (by omega) (fun r336_0 r336_1 f124 => ?_)
      intro x344 ex344
      have f125 : x344.toInt = 48 + x13.toInt := i_add (a := 48) (b := x13.toInt) ex344 rfl rfl (by omega) (by omega)
      refine ok_X12_put (by omega) (by omega) (fun r345_0 r345_1 f126 => ?_)
      exact j_482 r345_0 v_opened r345_1 (by omega) (by omega) (by first | (have h9 := zrt_b (b := (220 * p1.toInt)) (k := p2.toInt) ex42 (by omega); have h8 := zvs_nn (k := p2.toInt) u0 (by omega) (by omega); omega) | (unfold zph at hz9; have h9 := zrt_b (b := (220 * p1.toInt)) (k := p2.toInt) ex42 (by omega); have h8 := zvs_nn (k := p2.toInt) u0 (by omega) (by omega); omega))
    · have f127 : x42.toInt = 8 := i_eq (a := x42.toInt) (b := 8) rfl rfl c43_5
      refine ok_X12_put (by omega) (by omega) (fun r354_0 r354_1 f128 => ?_)
      have f129 : x13.toInt ≤ 9 := by have h9 := zS_v9 (k := p2.toInt) u0 ex42 ex13 (by omega) (by omega) (by omega) (by omega) (by omega); omega
      intro x372 ex372
      have f130 : x372.toInt = 10 * p1.toInt := i_mul (a := 10) (b := p1.toInt) ex372 rfl rfl (by omega) (by omega)
      intro x375 ex375
      have f131 : x375.toInt = x372.toInt + x13.toInt := i_add (a := x372.toInt) (b := x13.toInt) ex375 rfl rfl (by omega) (by omega)
      refine ⟨i_in (by omega) (by omega), ?_⟩
      intro x376 ex376
      refine ⟨fun c377 => ?_, fun c377 => ?_⟩
      · have f132 : x376.toInt ≤ 0 := i_le (a := x376.toInt) (b := 0) rfl rfl c377
        exact j_482 r354_0 r354_0 r354_1 (by omega) (by omega) (by first | (have h9 := zrt_b (b := (220 * p1.toInt)) (k := p2.toInt) ex42 (by omega); have h8 := zvs_nn (k := p2.toInt) u0 (by omega) (by omega); omega) | (unfold zph at hz9; have h9 := zrt_b (b := (220 * p1.toInt)) (k := p2.toInt) ex42 (by omega); have h8 := zvs_nn (k := p2.toInt) u0 (by omega) (by omega); omega))
      · have f133 : 0 < x376.toInt := i_nle (a := x376.toInt) (b := 0) rfl rfl c377
        refine ok_X12_put (by omega) (by omega) (fun r383_0 r383_1 f134 => ?_)
        intro x394 ex394
        have f135 : x394.toInt = 10 * p1.toInt := i_mul (a := 10) (b := p1.toInt) ex394 rfl rfl (by omega) (by omega)
        intro x397 ex397
        have f136 : x397.toInt = x394.toInt + x13.toInt := i_add (a := x394.toInt) (b := x13.toInt) ex397 rfl rfl (by omega) (by omega)
        refine ⟨i_in (by omega) (by omega), ?_⟩
        intro x398 ex398
        refine ok_X12_put (by omega) (by omega) (fun r399_0 r399_1 f137 => ?_)
        exact j_482 r399_0 r354_0 r399_1 (by omega) (by omega) (by first | (have h9 := zrt_b (b := (220 * p1.toInt)) (k := p2.toInt) ex42 (by omega); have h8 := zvs_nn (k := p2.toInt) u0 (by omega) (by omega); omega) | (unfold zph at hz9; have h9 := zrt_b (b := (220 * p1.toInt)) (k := p2.toInt) ex42 (by omega); have h8 := zvs_nn (k := p2.toInt) u0 (by omega) (by omega); omega))
    · have f138 : x42.toInt = 9 := i_eq (a := x42.toInt) (b := 9) rfl rfl c43_6
      refine ok_X12_put (by omega) (by omega) (fun r408_0 r408_1 f139 => ?_)
      have j_446 : ∀ (s0_446 : Int32), 32 ≤ s0_446.toInt → s0_446.toInt ≤ 126 → w_X12_printHead_446 Q s0_446 r408_0 v_opened r408_1 := by
        intro s0_446 f140 f141
        unfold w_X12_printHead_446
        refine ok_X12_put (by omega) (by omega) (fun r446_0 r446_1 f142 => ?_)
        exact j_482 r446_0 v_opened r446_1 (by omega) (by omega) (by first | (have h9 := zrt_b (b := (220 * p1.toInt)) (k := p2.toInt) ex42 (by omega); have h8 := zvs_nn (k := p2.toInt) u0 (by omega) (by omega); omega) | (unfold zph at hz9; have h9 := zrt_b (b := (220 * p1.toInt)) (k := p2.toInt) ex42 (by omega); have h8 := zvs_nn (k := p2.toInt) u0 (by omega) (by omega); omega))
      refine ⟨fun c414 => ?_, fun c414 => ?_⟩
      · have f143 : x13.toInt ≠ 0 := i_ne (a := x13.toInt) (b := 0) rfl rfl c414
        refine ⟨fun c425 => ?_, fun c425 => ?_⟩
        · have f144 : x13.toInt ≠ 1 := i_ne (a := x13.toInt) (b := 1) rfl rfl c425
          refine ⟨fun c436 => ?_, fun c436 => ?_⟩
          · have f145 : x13.toInt ≠ 2 := i_ne (a := x13.toInt) (b := 2) rfl rfl c436
            exact j_446 126 (by omega) (by omega)
          · have f146 : x13.toInt = 2 := i_eq (a := x13.toInt) (b := 2) rfl rfl c436
            exact j_446 60 (by omega) (by omega)
        · have f147 : x13.toInt = 1 := i_eq (a := x13.toInt) (b := 1) rfl rfl c425
          exact j_446 33 (by omega) (by omega)
      · have f148 : x13.toInt = 0 := i_eq (a := x13.toInt) (b := 0) rfl rfl c414
        exact j_446 61 (by omega) (by omega)
    · have f149 : x42.toInt = 10 := i_eq (a := x42.toInt) (b := 10) rfl rfl c43_7
      refine ok_X12_put (by omega) (by omega) (fun r455_0 r455_1 f150 => ?_)
      refine ok_X12_put (by omega) (by omega) (fun r461_0 r461_1 f151 => ?_)
      exact j_482 r461_0 v_opened r461_1 (by omega) (by omega) (by first | (have h9 := zrt_b (b := (220 * p1.toInt)) (k := p2.toInt) ex42 (by omega); have h8 := zvs_nn (k := p2.toInt) u0 (by omega) (by omega); omega) | (unfold zph at hz9; have h9 := zrt_b (b := (220 * p1.toInt)) (k := p2.toInt) ex42 (by omega); have h8 := zvs_nn (k := p2.toInt) u0 (by omega) (by omega); omega))
    · have f152 : x42.toInt = 11 := i_eq (a := x42.toInt) (b := 11) rfl rfl c43_8
      refine ok_X12_put (by omega) (by omega) (fun r470_0 r470_1 f153 => ?_)
      refine ok_X12_put (by omega) (by omega) (fun r476_0 r476_1 f154 => ?_)
      exact j_482 r476_0 v_opened r476_1 (by omega) (by omega) (by first | (have h9 := zrt_b (b := (220 * p1.toInt)) (k := p2.toInt) ex42 (by omega); have h8 := zvs_nn (k := p2.toInt) u0 (by omega) (by omega); omega) | (unfold zph at hz9; have h9 := zrt_b (b := (220 * p1.toInt)) (k := p2.toInt) ex42 (by omega); have h8 := zvs_nn (k := p2.toInt) u0 (by omega) (by omega); omega))
    · intro c43_0 c43_1 c43_2 c43_3 c43_4 c43_5 c43_6 c43_7 c43_8
      have f155 : x42.toInt ≠ 0 := i_ne (a := x42.toInt) (b := 0) rfl rfl c43_0
      have f156 : x42.toInt ≠ 1 := i_ne (a := x42.toInt) (b := 1) rfl rfl c43_1
      have f157 : x42.toInt ≠ 2 := i_ne (a := x42.toInt) (b := 2) rfl rfl c43_2
      have f158 : x42.toInt ≠ 3 := i_ne (a := x42.toInt) (b := 3) rfl rfl c43_3
      have f159 : x42.toInt ≠ 4 := i_ne (a := x42.toInt) (b := 4) rfl rfl c43_4
      have f160 : x42.toInt ≠ 8 := i_ne (a := x42.toInt) (b := 8) rfl rfl c43_5
      have f161 : x42.toInt ≠ 9 := i_ne (a := x42.toInt) (b := 9) rfl rfl c43_6
      have f162 : x42.toInt ≠ 10 := i_ne (a := x42.toInt) (b := 10) rfl rfl c43_7
      have f163 : x42.toInt ≠ 11 := i_ne (a := x42.toInt) (b := 11) rfl rfl c43_8
      exact j_482 v_printedMany_37 v_opened v_printed_37 (by omega) (by omega) (by first | (have h9 := zrt_b (b := (220 * p1.toInt)) (k := p2.toInt) ex42 (by omega); have h8 := zvs_nn (k := p2.toInt) u0 (by omega) (by omega); omega) | (unfold zph at hz9; have h9 := zrt_b (b := (220 * p1.toInt)) (k := p2.toInt) ex42 (by omega); have h8 := zvs_nn (k := p2.toInt) u0 (by omega) (by omega); omega))
  refine ⟨fun c22 => ?_, fun c22 => ?_⟩
  · have f164 : r19.toInt = 0 := i_eq (a := r19.toInt) (b := 0) rfl rfl c22
    exact j_37 v_printedMany v_printed (by omega) (by omega) (by omega)
  · have f165 : r19.toInt ≠ 0 := i_ne (a := r19.toInt) (b := 0) rfl rfl c22
    refine ok_X12_put (by omega) (by omega) (fun r28_0 r28_1 f166 => ?_)
    refine ok_X12_put (by omega) (by omega) (fun r34_0 r34_1 f167 => ?_)
    exact j_37 r34_0 r34_1 (by omega) (by omega) (by omega)
set_option maxHeartbeats 4000000 in
theorem ok_X12_printTail {p1 : Int32} {p2 : Int32} {v_printedMany : Int32} {v_sort : Nat → Int32} {v_value : Nat → Int32} {v_least : Nat → Int32} {v_most : Nat → Int32} {v_holder : Nat → Int32} {v_printed : Nat → Int32} {v_parts : Nat → Int32} {v_end : Nat → Int32} {v_firstPart : Nat → Int32} {v_partBegin : Nat → Int32} {v_partEnd : Nat → Int32} {v_many : Nat → Int32} {v_captures : Nat → Int32} {Q : Int32 → (Nat → Int32) → Prop} (a0 : 0 ≤ p1.toInt) (a1 : p1.toInt ≤ 5) (a2 : 0 ≤ p2.toInt) (a3 : 0 ≤ v_printedMany.toInt) (a4 : v_printedMany.toInt ≤ 3980) (u0 : zSl v_sort v_value v_least v_most v_holder v_parts v_end v_firstPart v_partBegin v_partEnd (220 * p1.toInt) (420 * p1.toInt) (zg v_many p1.toInt) (zg v_captures p1.toInt)) (u1 : p2.toInt < zg v_many p1.toInt) (hq : ∀ (ov_printedMany : Int32) (ov_printed : Nat → Int32), v_printedMany.toInt ≤ ov_printedMany.toInt → ov_printedMany.toInt ≤ 3999 → (ov_printedMany.toInt ≤ v_printedMany.toInt + zrt v_sort (220 * p1.toInt) p2.toInt) → Q ov_printedMany ov_printed) : w_X12_printTail p1 p2 v_printedMany v_sort v_value v_least v_most v_holder v_printed Q := by
  have q_t : (bz true).toInt = 1 := rfl
  have q_f : (bz false).toInt = 0 := rfl
  have q_41 : (41 : Int32).toInt = 41 := rfl
  have q_42 : (42 : Int32).toInt = 42 := rfl
  have q_43 : (43 : Int32).toInt = 43 := rfl
  have q_44 : (44 : Int32).toInt = 44 := rfl
  have q_63 : (63 : Int32).toInt = 63 := rfl
  have q_123 : (123 : Int32).toInt = 123 := rfl
  have q_125 : (125 : Int32).toInt = 125 := rfl
  unfold w_X12_printTail
  have f1 : 1 ≤ (zg v_many p1.toInt : Int) := (zS_n u0).1
  have f2 : (zg v_many p1.toInt : Int) ≤ 220 := (zS_n u0).2
  have f3 : 0 ≤ (zg v_captures p1.toInt : Int) := (zS_c u0).1
  have f4 : (zg v_captures p1.toInt : Int) ≤ 9 := (zS_c u0).2
  have f5 : p2.toInt + 1 ≤ (zg v_many p1.toInt : Int) := u1
  intro x4 ex4
  have f6 : x4.toInt = 220 * p1.toInt := i_mul (a := 220) (b := p1.toInt) ex4 rfl rfl (by omega) (by omega)
  intro x6 ex6
  have f7 : x6.toInt = x4.toInt + p2.toInt := i_add (a := x4.toInt) (b := p2.toInt) ex6 rfl rfl (by omega) (by omega)
  refine ⟨i_in (by omega) (by omega), ?_⟩
  intro x13 ex13
  have f8 : 0 ≤ x13.toInt ∧ x13.toInt ≤ 11 := by have h9 := zS_sort (k := (-220) * p1.toInt + x6.toInt) u0 ex13 (by omega) (by omega) (by omega); omega
  have hs13 := zg_at2 (k := 220 * p1.toInt + p2.toInt) ex13 (by omega)
  have j_176 : ∀ (v_printedMany_176 : Int32) (v_printed_176 : Nat → Int32), v_printedMany.toInt ≤ v_printedMany_176.toInt → v_printedMany_176.toInt ≤ v_printedMany.toInt + 8 → ((v_printedMany_176.toInt ≤ v_printedMany.toInt + 8 ∧ x13.toInt = 7) ∨ (v_printedMany_176.toInt ≤ v_printedMany.toInt ∧ x13.toInt ≠ 7)) → w_X12_printTail_176 p1 p2 v_sort v_holder Q x6 v_printedMany_176 v_printed_176 := by
    intro v_printedMany_176 v_printed_176 f9 f10 u176_0
    unfold w_X12_printTail_176
    refine ⟨i_in (by omega) (by omega), ?_⟩
    intro x181 ex181
    have f11 : x181.toInt = x13.toInt := congrArg Int32.toInt (ex181.trans ex13.symm)
    have f12 : 0 ≤ x181.toInt ∧ x181.toInt ≤ 11 := by have h9 := zS_sort (k := (-220) * p1.toInt + x6.toInt) u0 ex181 (by omega) (by omega) (by omega); omega
    have j_193 : ∀ (v_printedMany_193 : Int32) (v_printed_193 : Nat → Int32), v_printedMany.toInt ≤ v_printedMany_193.toInt → v_printedMany_193.toInt ≤ v_printedMany.toInt + 9 → ((v_printedMany_193.toInt = v_printedMany_176.toInt ∧ x181.toInt ≤ 7) ∨ (8 ≤ x181.toInt ∧ v_printedMany_193.toInt = v_printedMany_176.toInt + 1)) → ((v_printedMany_193.toInt ≤ v_printedMany.toInt + 8 ∧ x13.toInt = 7) ∨ (v_printedMany_193.toInt ≤ v_printedMany.toInt ∧ x13.toInt ≠ 7) ∨ (v_printedMany_193.toInt ≤ v_printedMany.toInt + 1 ∧ 8 ≤ x13.toInt)) → w_X12_printTail_193 p1 p2 v_sort v_holder Q v_printedMany_193 v_printed_193 := by
      intro v_printedMany_193 v_printed_193 f13 f14 f15 u193_0
      unfold w_X12_printTail_193
      refine ok_X12_isWrapped (v_value := v_value) (v_least := v_least) (v_most := v_most) (v_parts := v_parts) (v_end := v_end) (v_firstPart := v_firstPart) (v_partBegin := v_partBegin) (v_partEnd := v_partEnd) (v_many := v_many) (v_captures := v_captures) (by omega) (by omega) (by omega) (by first | assumption | omega) (by first | assumption | omega) (fun r196 f16 f17 f18 u196_0 => ?_)
      have j_208 : ∀ (v_printedMany_208 : Int32) (v_printed_208 : Nat → Int32), v_printedMany.toInt ≤ v_printedMany_208.toInt → ((v_printedMany_208.toInt = v_printedMany_193.toInt ∧ r196.toInt = 0) ∨ (v_printedMany_208.toInt = v_printedMany_193.toInt + 1)) → ((v_printedMany_208.toInt ≤ v_printedMany.toInt + 9 ∧ x13.toInt = 7) ∨ (v_printedMany_208.toInt ≤ v_printedMany.toInt ∧ x13.toInt ≠ 7) ∨ (v_printedMany_208.toInt ≤ v_printedMany.toInt + 1 ∧ 5 ≤ x13.toInt)) → w_X12_printTail_208 Q v_printedMany_208 v_printed_208 := by
        intro v_printedMany_208 v_printed_208 f19 f20 u208_0
        unfold w_X12_printTail_208
        exact hq v_printedMany_208 v_printed_208 (by omega) (by omega) (by have h9 := zrt_b (b := (220 * p1.toInt)) (k := p2.toInt) ex13 (by omega); have h8 := zrt_5 (so := v_sort) (b := (220 * p1.toInt)) (k := p2.toInt) ex13 (by omega); omega)
      refine ⟨fun c199 => ?_, fun c199 => ?_⟩
      · have f21 : r196.toInt = 0 := i_eq (a := r196.toInt) (b := 0) rfl rfl c199
        exact j_208 v_printedMany_193 v_printed_193 (by omega) (by omega) (by omega)
      · have f22 : r196.toInt ≠ 0 := i_ne (a := r196.toInt) (b := 0) rfl rfl c199
        refine ok_X12_put (by omega) (by omega) (fun r205_0 r205_1 f23 => ?_)
        exact j_208 r205_0 r205_1 (by omega) (by omega) (by omega)
    refine ⟨fun c184 => ?_, fun c184 => ?_⟩
    · have f24 : x181.toInt < 8 := i_lt (a := x181.toInt) (b := 8) rfl rfl c184
      exact j_193 v_printedMany_176 v_printed_176 (by omega) (by omega) (by omega) (by omega)
    · have f25 : 8 ≤ x181.toInt := i_nlt (a := x181.toInt) (b := 8) rfl rfl c184
      refine ok_X12_put (by omega) (by omega) (fun r190_0 r190_1 f26 => ?_)
      exact j_193 r190_0 r190_1 (by omega) (by omega) (by omega) (by omega)
  refine ⟨fun c16 => ?_, fun c16 => ?_⟩
  · have f27 : x13.toInt ≠ 7 := i_ne (a := x13.toInt) (b := 7) rfl rfl c16
    exact j_176 v_printedMany v_printed (by omega) (by omega) (by omega)
  · have f28 : x13.toInt = 7 := i_eq (a := x13.toInt) (b := 7) rfl rfl c16
    refine ⟨i_in (by omega) (by omega), ?_⟩
    intro x24 ex24
    have f29 : 0 ≤ x24.toInt ∧ x24.toInt ≤ 20 := by have h9 := zS_least (k := (-220) * p1.toInt + x6.toInt) u0 ex24 (by omega) (by omega) (by omega); omega
    refine ⟨i_in (by omega) (by omega), ?_⟩
    intro x32 ex32
    have f30 : 0 ≤ x32.toInt + 1 ∧ x32.toInt ≤ 20 := by have h9 := zS_most (k := (-220) * p1.toInt + x6.toInt) u0 ex32 (by omega) (by omega) (by omega); omega
    have j_146 : ∀ (v_printedMany_146 : Int32) (v_printed_146 : Nat → Int32), v_printedMany.toInt ≤ v_printedMany_146.toInt → v_printedMany_146.toInt ≤ v_printedMany.toInt + 8 → v_printedMany_146.toInt ≤ v_printedMany.toInt + 7 → 1 ≤ v_printedMany_146.toInt → w_X12_printTail_146 p1 p2 v_sort v_value v_holder Q x6 v_printedMany_146 v_printed_146 := by
      intro v_printedMany_146 v_printed_146 f31 f32 f33 f34
      unfold w_X12_printTail_146
      refine ⟨i_in (by omega) (by omega), ?_⟩
      intro x151 ex151
      have f35 : 0 ≤ x151.toInt ∧ x151.toInt ≤ 65535 := by have h9 := zS_value (k := (-220) * p1.toInt + x6.toInt) u0 ex151 (by omega) (by omega) (by omega); omega
      refine ⟨fun c152 => ?_, fun c152 => ?_⟩
      · have f36 : x151.toInt ≤ 0 := i_le (a := x151.toInt) (b := 0) rfl rfl c152
        exact j_176 v_printedMany_146 v_printed_146 (by omega) (by omega) (by omega)
      · have f37 : 0 < x151.toInt := i_nle (a := x151.toInt) (b := 0) rfl rfl c152
        refine ⟨i_in (by omega) (by omega), ?_⟩
        intro x161 ex161
        have f38 : x161.toInt = x151.toInt := congrArg Int32.toInt (ex161.trans ex151.symm)
        have f39 : 0 ≤ x161.toInt ∧ x161.toInt ≤ 65535 := by have h9 := zS_value (k := (-220) * p1.toInt + x6.toInt) u0 ex161 (by omega) (by omega) (by omega); omega
        have j_173 : ∀ (s0_173 : Int32), ((s0_173.toInt = 43) ∨ (s0_173.toInt = 63 ∧ x161.toInt = 1)) → w_X12_printTail_173 p1 p2 v_sort v_holder Q s0_173 x6 v_printedMany_146 v_printed_146 := by
          intro s0_173 f40
          unfold w_X12_printTail_173
          refine ok_X12_put (by omega) (by omega) (fun r173_0 r173_1 f41 => ?_)
          exact j_176 r173_0 r173_1 (by omega) (by omega) (by omega)
        refine ⟨fun c163 => ?_, fun c163 => ?_⟩
        · have f42 : x161.toInt ≠ 1 := i_ne (a := x161.toInt) (b := 1) rfl rfl c163
          exact j_173 43 (by omega)
        · have f43 : x161.toInt = 1 := i_eq (a := x161.toInt) (b := 1) rfl rfl c163
          exact j_173 63 (by omega)
    have j_55 : w_X12_printTail_55 p1 p2 v_sort v_value v_holder Q x6 x24 x32 v_printedMany v_printed := by
      unfold w_X12_printTail_55
      have j_76 : w_X12_printTail_76 p1 p2 v_sort v_value v_holder Q x6 x24 x32 v_printedMany v_printed := by
        unfold w_X12_printTail_76
        have j_96 : w_X12_printTail_96 p1 p2 v_sort v_value v_holder Q x6 x24 x32 v_printedMany v_printed := by
          unfold w_X12_printTail_96
          refine ok_X12_put (by omega) (by omega) (fun r99_0 r99_1 f44 => ?_)
          refine ok_X12_putNumber (by omega) (by omega) (by omega) (by omega) (fun r105_0 r105_1 f45 f46 f47 => ?_)
          have j_121 : ∀ (v_printedMany_121 : Int32) (v_printed_121 : Nat → Int32), v_printedMany.toInt ≤ v_printedMany_121.toInt → v_printedMany_121.toInt ≤ v_printedMany.toInt + 8 → v_printedMany_121.toInt ≤ v_printedMany.toInt + 7 → v_printedMany_121.toInt ≤ v_printedMany.toInt + 4 → ((v_printedMany_121.toInt = r105_0.toInt ∧ x32.toInt = x24.toInt) ∨ (v_printedMany_121.toInt = r105_0.toInt + 1)) → w_X12_printTail_121 p1 p2 v_sort v_value v_holder Q x6 x24 x32 v_printedMany_121 v_printed_121 := by
            intro v_printedMany_121 v_printed_121 f48 f49 f50 f51 f52
            unfold w_X12_printTail_121
            have j_140 : ∀ (v_printedMany_140 : Int32) (v_printed_140 : Nat → Int32), v_printedMany.toInt ≤ v_printedMany_140.toInt → v_printedMany_140.toInt ≤ v_printedMany.toInt + 8 → v_printedMany_140.toInt ≤ v_printedMany.toInt + 7 → v_printedMany_140.toInt ≤ v_printedMany.toInt + 6 → ((v_printedMany_140.toInt = v_printedMany_121.toInt ∧ x32.toInt = x24.toInt) ∨ (v_printedMany_140.toInt = v_printedMany_121.toInt ∧ x32.toInt + 1 = 0) ∨ (v_printedMany_121.toInt + 1 ≤ v_printedMany_140.toInt ∧ v_printedMany_140.toInt ≤ v_printedMany_121.toInt + 3)) → w_X12_printTail_140 p1 p2 v_sort v_value v_holder Q x6 v_printedMany_140 v_printed_140 := by
              intro v_printedMany_140 v_printed_140 f53 f54 f55 f56 f57
              unfold w_X12_printTail_140
              refine ok_X12_put (by omega) (by omega) (fun r143_0 r143_1 f58 => ?_)
              exact j_146 r143_0 r143_1 (by omega) (by omega) (by omega) (by omega)
            refine ⟨fun c125 => ?_, fun c125 => ?_⟩
            · have f59 : x32.toInt = x24.toInt := i_eq (a := x32.toInt) (b := x24.toInt) rfl rfl c125
              exact j_140 v_printedMany_121 v_printed_121 (by omega) (by omega) (by omega) (by omega) (by omega)
            · have f60 : x32.toInt ≠ x24.toInt := i_ne (a := x32.toInt) (b := x24.toInt) rfl rfl c125
              refine ⟨fun c131 => ?_, fun c131 => ?_⟩
              · have f61 : x32.toInt = (-1) := i_eq (a := x32.toInt) (b := (-1)) rfl rfl c131
                exact j_140 v_printedMany_121 v_printed_121 (by omega) (by omega) (by omega) (by omega) (by omega)
              · have f62 : x32.toInt ≠ (-1) := i_ne (a := x32.toInt) (b := (-1)) rfl rfl c131
                refine ok_X12_putNumber (by omega) (by omega) (by omega) (by omega) (fun r137_0 r137_1 f63 f64 f65 => ?_)
                exact j_140 r137_0 r137_1 (by omega) (by omega) (by omega) (by omega) (by omega)
          refine ⟨fun c112 => ?_, fun c112 => ?_⟩
          · have f66 : x32.toInt = x24.toInt := i_eq (a := x32.toInt) (b := x24.toInt) rfl rfl c112
            exact j_121 r105_0 r105_1 (by omega) (by omega) (by omega) (by omega) (by omega)
          · have f67 : x32.toInt ≠ x24.toInt := i_ne (a := x32.toInt) (b := x24.toInt) rfl rfl c112
            refine ok_X12_put (by omega) (by omega) (fun r118_0 r118_1 f68 => ?_)
            exact j_121 r118_0 r118_1 (by omega) (by omega) (by omega) (by omega) (by omega)
        refine ⟨fun c78 => ?_, fun c78 => ?_⟩
        · have f69 : x24.toInt ≠ 0 := i_ne (a := x24.toInt) (b := 0) rfl rfl c78
          exact j_96  
        · have f70 : x24.toInt = 0 := i_eq (a := x24.toInt) (b := 0) rfl rfl c78
          refine ⟨fun c84 => ?_, fun c84 => ?_⟩
          · have f71 : x32.toInt ≠ 1 := i_ne (a := x32.toInt) (b := 1) rfl rfl c84
            exact j_96  
          · have f72 : x32.toInt = 1 := i_eq (a := x32.toInt) (b := 1) rfl rfl c84
            refine ok_X12_put (by omega) (by omega) (fun r90_0 r90_1 f73 => ?_)
            exact j_146 r90_0 r90_1 (by omega) (by omega) (by omega) (by omega)
      refine ⟨fun c58 => ?_, fun c58 => ?_⟩
      · have f74 : x24.toInt ≠ 1 := i_ne (a := x24.toInt) (b := 1) rfl rfl c58
        exact j_76  
      · have f75 : x24.toInt = 1 := i_eq (a := x24.toInt) (b := 1) rfl rfl c58
        refine ⟨fun c64 => ?_, fun c64 => ?_⟩
        · have f76 : x32.toInt ≠ (-1) := i_ne (a := x32.toInt) (b := (-1)) rfl rfl c64
          exact j_76  
        · have f77 : x32.toInt = (-1) := i_eq (a := x32.toInt) (b := (-1)) rfl rfl c64
          refine ok_X12_put (by omega) (by omega) (fun r70_0 r70_1 f78 => ?_)
          exact j_146 r70_0 r70_1 (by omega) (by omega) (by omega) (by omega)
    refine ⟨fun c37 => ?_, fun c37 => ?_⟩
    · have f79 : x24.toInt ≠ 0 := i_ne (a := x24.toInt) (b := 0) rfl rfl c37
      exact j_55  
    · have f80 : x24.toInt = 0 := i_eq (a := x24.toInt) (b := 0) rfl rfl c37
      refine ⟨fun c43 => ?_, fun c43 => ?_⟩
      · have f81 : x32.toInt ≠ (-1) := i_ne (a := x32.toInt) (b := (-1)) rfl rfl c43
        exact j_55  
      · have f82 : x32.toInt = (-1) := i_eq (a := x32.toInt) (b := (-1)) rfl rfl c43
        refine ok_X12_put (by omega) (by omega) (fun r49_0 r49_1 f83 => ?_)
        exact j_146 r49_0 r49_1 (by omega) (by omega) (by omega) (by omega)
set_option maxHeartbeats 4000000 in
theorem ok_X12_printFrom {p1 : Int32} {p2 : Int32} {v_nameOf : Nat → Int32} {v_sort : Nat → Int32} {v_value : Nat → Int32} {v_least : Nat → Int32} {v_most : Nat → Int32} {v_holder : Nat → Int32} {v_parts : Nat → Int32} {v_end : Nat → Int32} {v_firstPart : Nat → Int32} {v_partBegin : Nat → Int32} {v_partEnd : Nat → Int32} {v_waiting : Nat → Int32} {v_waitingHolder : Nat → Int32} {v_printed : Nat → Int32} {v_many : Nat → Int32} {v_captures : Nat → Int32} {Q : Int32 → Int32 → (Nat → Int32) → (Nat → Int32) → (Nat → Int32) → Prop} (a0 : 0 ≤ p1.toInt) (a1 : p1.toInt ≤ 5) (a2 : 0 ≤ p2.toInt) (u0 : zSl v_sort v_value v_least v_most v_holder v_parts v_end v_firstPart v_partBegin v_partEnd (220 * p1.toInt) (420 * p1.toInt) (zg v_many p1.toInt) (zg v_captures p1.toInt)) (u1 : p2.toInt < zg v_many p1.toInt) (hq : ∀ (ov_printedMany : Int32) (ov_opened : Int32) (ov_waiting : Nat → Int32) (ov_waitingHolder : Nat → Int32) (ov_printed : Nat → Int32), 0 ≤ ov_printedMany.toInt + 1 → 0 ≤ ov_printedMany.toInt → ov_printedMany.toInt ≤ 3332 → Q ov_printedMany ov_opened ov_waiting ov_waitingHolder ov_printed) : w_X12_printFrom p1 p2 v_nameOf v_sort v_value v_least v_most v_holder v_parts v_end v_firstPart v_partBegin v_partEnd v_waiting v_waitingHolder v_printed Q := by
  have q_t : (bz true).toInt = 1 := rfl
  have q_f : (bz false).toInt = 0 := rfl
  have q_m1 : ((-1) : Int32).toInt = (-1) := rfl
  have q_0 : (0 : Int32).toInt = 0 := rfl
  have q_1 : (1 : Int32).toInt = 1 := rfl
  have q_124 : (124 : Int32).toInt = 124 := rfl
  unfold w_X12_printFrom
  have f1 : 1 ≤ (zg v_many p1.toInt : Int) := (zS_n u0).1
  have f2 : (zg v_many p1.toInt : Int) ≤ 220 := (zS_n u0).2
  have f3 : 0 ≤ (zg v_captures p1.toInt : Int) := (zS_c u0).1
  have f4 : (zg v_captures p1.toInt : Int) ≤ 9 := (zS_c u0).2
  have f5 : p2.toInt + 1 ≤ (zg v_many p1.toInt : Int) := u1
  have hz := fun k (k0 : 0 ≤ k) (k1 : k < zg v_many p1.toInt) => zvs_nn (k := k) u0 k0 k1
  have h33 := zS_33 u0
  intro x4 ex4
  have f6 : x4.toInt = 220 * p1.toInt := i_mul (a := 220) (b := p1.toInt) ex4 rfl rfl (by omega) (by omega)
  intro g22 eg22
  intro g29 eg29
  have j_33 : ∀ n_33 : Nat, ∀ (l4_33 : Int32) (v_printedMany_33 : Int32) (v_opened_33 : Int32) (v_waiting_33 : Nat → Int32) (v_waitingHolder_33 : Nat → Int32) (v_printed_33 : Nat → Int32) (gm_33 : Int), 0 ≤ v_printedMany_33.toInt → 0 ≤ l4_33.toInt → (zPI v_waiting_33 v_waitingHolder_33 v_end v_sort (zvs v_sort v_value v_parts v_firstPart v_partBegin v_partEnd (220 * p1.toInt) (420 * p1.toInt)) (220 * p1.toInt) (zg v_many p1.toInt) l4_33.toInt v_printedMany_33.toInt gm_33) → (gm_33).toNat < n_33 → w_X12_printFrom_33 p1 v_nameOf v_sort v_value v_least v_most v_holder v_parts v_end v_firstPart v_partBegin v_partEnd Q x4 n_33 l4_33 v_printedMany_33 v_opened_33 v_waiting_33 v_waitingHolder_33 v_printed_33 := by
    intro n_33
    induction n_33 with
    | zero =>
      intro l4_33 v_printedMany_33 v_opened_33 v_waiting_33 v_waitingHolder_33 v_printed_33 gm_33 f7 f8 u33_0 hm_33
      exfalso; omega
    | succ n_33 ih_33 =>
      intro l4_33 v_printedMany_33 v_opened_33 v_waiting_33 v_waitingHolder_33 v_printed_33 gm_33 f7 f8 u33_0 hm_33
      unfold w_X12_printFrom_33
      unfold w_X12_printFrom_33B
      refine ⟨fun c35 => ?_, fun c35 => ?_⟩
      · have f9 : l4_33.toInt ≤ 0 := i_le (a := l4_33.toInt) (b := 0) rfl rfl c35
        have f10 : v_printedMany_33.toInt ≤ 3332 := by have h9 := zPI_end u33_0 hz (by omega); omega
        exact hq v_printedMany_33 v_opened_33 v_waiting_33 v_waitingHolder_33 v_printed_33 (by omega) (by omega) (by omega)
      · have f11 : 0 < l4_33.toInt := i_nle (a := l4_33.toInt) (b := 0) rfl rfl c35
        have hl9 := zPI_le u33_0 hz (by omega)
        have f12 : l4_33.toInt ≤ 220 := by omega
        have f13 : v_printedMany_33.toInt ≤ 3333 := by omega
        intro x45 ex45
        have f14 : x45.toInt = l4_33.toInt - 1 := i_sub (a := l4_33.toInt) (b := 1) ex45 rfl rfl (by omega) (by omega)
        refine ⟨i_in (by omega) (by omega), ?_⟩
        intro x46 ex46
        have hw9 := zg_at2 (k := l4_33.toInt - 1) ex46 (by omega)
        have f15 : 0 ≤ x46.toInt := by omega
        have f16 : x46.toInt + 1 ≤ (zg v_many p1.toInt : Int) := by omega
        intro x56 ex56
        have f17 : x56.toInt = l4_33.toInt - 1 := i_sub (a := l4_33.toInt) (b := 1) ex56 rfl rfl (by omega) (by omega)
        refine ⟨i_in (by omega) (by omega), ?_⟩
        intro x57 ex57
        have hh9 := zg_at2 (k := l4_33.toInt - 1) ex57 (by omega)
        have j_82 : ∀ (v_printedMany_82 : Int32) (v_opened_82 : Int32) (v_waitingHolder_82 : Nat → Int32) (v_printed_82 : Nat → Int32), v_printedMany_33.toInt ≤ v_printedMany_82.toInt → ((v_printedMany_82.toInt = v_printedMany_33.toInt) ∨ (v_printedMany_33.toInt ≤ v_printedMany_82.toInt ∧ v_printedMany_82.toInt ≤ 3999)) → (zPO v_waiting_33 v_waitingHolder_82 v_end v_sort (zvs v_sort v_value v_parts v_firstPart v_partBegin v_partEnd (220 * p1.toInt) (420 * p1.toInt)) (220 * p1.toInt) (zg v_many p1.toInt) l4_33.toInt v_printedMany_82.toInt gm_33) → w_X12_printFrom_82 p1 v_sort v_value v_least v_most v_holder v_end x4 Q (w_X12_printFrom_33 p1 v_nameOf v_sort v_value v_least v_most v_holder v_parts v_end v_firstPart v_partBegin v_partEnd Q x4 n_33) l4_33 x46 v_printedMany_82 v_opened_82 v_waiting_33 v_waitingHolder_82 v_printed_82 := by
          intro v_printedMany_82 v_opened_82 v_waitingHolder_82 v_printed_82 f18 f19 u82_0
          unfold w_X12_printFrom_82
          have hq9 := zPI_le (Or.inl u82_0) hz (by omega)
          have f20 : v_printedMany_82.toInt ≤ 3333 := by omega
          intro x89 ex89
          have f21 : x89.toInt = l4_33.toInt - 1 := i_sub (a := l4_33.toInt) (b := 1) ex89 rfl rfl (by omega) (by omega)
          refine ⟨i_in (by omega) (by omega), ?_⟩
          intro x90 ex90
          have hc9 := zPO_c u82_0 (by omega)
          have hc8 := zg_at2 (k := l4_33.toInt - 1) ex90 (by omega)
          have he9 := zS_e (k := x46.toInt) u0 (by omega) (by omega)
          rw [← hw9, ← hc8] at hc9
          have f22 : x46.toInt + 1 ≤ x90.toInt := by omega
          have f23 : x90.toInt ≤ (zg v_many p1.toInt : Int) := by omega
          intro x102 ex102
          have f24 : x102.toInt = x4.toInt + x46.toInt := i_add (a := x4.toInt) (b := x46.toInt) ex102 rfl rfl (by omega) (by omega)
          refine ⟨i_in (by omega) (by omega), ?_⟩
          intro x103 ex103
          have f25 : x102.toInt + 1 ≤ 220 * p1.toInt + x103.toInt ∧ x103.toInt ≤ (zg v_many p1.toInt : Int) := by have h9 := zS_end (k := (-220) * p1.toInt + x102.toInt) u0 ex103 (by omega) (by omega) (by omega); omega
          have j_187 : ∀ (l4_187 : Int32) (v_printedMany_187 : Int32) (v_waiting_187 : Nat → Int32) (v_waitingHolder_187 : Nat → Int32) (v_printed_187 : Nat → Int32), l4_33.toInt ≤ l4_187.toInt + 1 → l4_187.toInt ≤ l4_33.toInt + 1 → v_printedMany_33.toInt ≤ v_printedMany_187.toInt → ((x103.toInt ≤ x90.toInt ∧ v_printedMany_82.toInt ≤ v_printedMany_187.toInt ∧ v_printedMany_187.toInt ≤ 3999 ∧ l4_187.toInt + 1 = l4_33.toInt) ∨ (x90.toInt + 1 ≤ x103.toInt ∧ v_printedMany_33.toInt ≤ v_printedMany_187.toInt ∧ l4_187.toInt = l4_33.toInt + 1)) → v_printedMany_187.toInt ≤ 3999 → (zPI v_waiting_187 v_waitingHolder_187 v_end v_sort (zvs v_sort v_value v_parts v_firstPart v_partBegin v_partEnd (220 * p1.toInt) (420 * p1.toInt)) (220 * p1.toInt) (zg v_many p1.toInt) l4_187.toInt v_printedMany_187.toInt (gm_33 - 1)) → w_X12_printFrom_187 Q (w_X12_printFrom_33 p1 v_nameOf v_sort v_value v_least v_most v_holder v_parts v_end v_firstPart v_partBegin v_partEnd Q x4 n_33) l4_187 v_printedMany_187 v_opened_82 v_waiting_187 v_waitingHolder_187 v_printed_187 := by
            intro l4_187 v_printedMany_187 v_waiting_187 v_waitingHolder_187 v_printed_187 f26 f27 f28 f29 f30 u187_0
            unfold w_X12_printFrom_187
            exact ih_33 l4_187 v_printedMany_187 v_opened_82 v_waiting_187 v_waitingHolder_187 v_printed_187 (gm_33 - 1) (by omega) (by omega) (by first | assumption | exact zPI_0 (by subst eg22; exact zg_eq (i := 0)) (by subst eg29; exact zg_eq (i := 0)) (by omega) (by omega) (by omega)) (by omega)
          refine ⟨fun c104 => ?_, fun c104 => ?_⟩
          · have f31 : x103.toInt ≤ x90.toInt := i_le (a := x103.toInt) (b := x90.toInt) rfl rfl c104
            refine ok_X12_printTail (v_parts := v_parts) (v_end := v_end) (v_firstPart := v_firstPart) (v_partBegin := v_partBegin) (v_partEnd := v_partEnd) (v_many := v_many) (v_captures := v_captures) (by omega) (by omega) (by omega) (by omega) (by omega) (by exact u0) (by omega) (fun r181_0 r181_1 f32 f33 u181_0 => ?_)
            intro x184 ex184
            have f34 : x184.toInt = l4_33.toInt + (-1) := i_add (a := l4_33.toInt) (b := (-1)) ex184 rfl rfl (by omega) (by omega)
            exact j_187 x184 r181_0 v_waiting_33 v_waitingHolder_82 r181_1 (by omega) (by omega) (by omega) (by omega) (by omega) (by first | exact zPI_push u82_0 (by omega) eg153 eg162 eg170 (by omega) (by omega) (by omega) (by omega) (by rw [← zg_at2 ex152 (by omega)]) (by omega) (by rw [← hw9]; exact zS_lam u0 (by omega) (by omega) (by omega) (by rw [← zg_at2 ex103 (by omega)]; omega)) (by omega) (by omega) rfl | exact zPI_pop u82_0 hz (by omega) (by rw [← hw9]; omega) (by rw [← hw9]; exact u181_0) (by omega) rfl)
          · have f35 : x90.toInt < x103.toInt := i_nle (a := x103.toInt) (b := x90.toInt) rfl rfl c104
            intro x114 ex114
            have f36 : x114.toInt = x4.toInt + x46.toInt := i_add (a := x4.toInt) (b := x46.toInt) ex114 rfl rfl (by omega) (by omega)
            refine ⟨i_in (by omega) (by omega), ?_⟩
            intro x115 ex115
            have f37 : 0 ≤ x115.toInt ∧ x115.toInt ≤ 11 := by have h9 := zS_sort (k := (-220) * p1.toInt + x114.toInt) u0 ex115 (by omega) (by omega) (by omega); omega
            have j_136 : ∀ (v_printedMany_136 : Int32) (v_printed_136 : Nat → Int32), v_printedMany_33.toInt ≤ v_printedMany_136.toInt → ((v_printedMany_136.toInt = v_printedMany_82.toInt) ∨ (v_printedMany_136.toInt = v_printedMany_82.toInt ∧ x115.toInt = 6 ∧ x90.toInt ≤ x46.toInt + 1) ∨ (x115.toInt = 6 ∧ x46.toInt + 2 ≤ x90.toInt ∧ v_printedMany_136.toInt = v_printedMany_82.toInt + 1)) → (v_printedMany_136.toInt ≤ v_printedMany_82.toInt + 1) → w_X12_printFrom_136 v_end x4 Q (w_X12_printFrom_33 p1 v_nameOf v_sort v_value v_least v_most v_holder v_parts v_end v_firstPart v_partBegin v_partEnd Q x4 n_33) l4_33 x90 v_printedMany_136 v_opened_82 v_waiting_33 v_waitingHolder_82 v_printed_136 := by
              intro v_printedMany_136 v_printed_136 f38 f39 u136_0
              unfold w_X12_printFrom_136
              intro x143 ex143
              have f40 : x143.toInt = l4_33.toInt - 1 := i_sub (a := l4_33.toInt) (b := 1) ex143 rfl rfl (by omega) (by omega)
              intro x151 ex151
              have f41 : x151.toInt = x4.toInt + x90.toInt := i_add (a := x4.toInt) (b := x90.toInt) ex151 rfl rfl (by omega) (by omega)
              refine ⟨i_in (by omega) (by omega), ?_⟩
              intro x152 ex152
              have f42 : x151.toInt + 1 ≤ 220 * p1.toInt + x152.toInt ∧ x152.toInt ≤ (zg v_many p1.toInt : Int) := by have h9 := zS_end (k := (-220) * p1.toInt + x151.toInt) u0 ex152 (by omega) (by omega) (by omega); omega
              refine ⟨i_in (by omega) (by omega), ?_⟩
              intro g153 eg153
              refine ⟨i_in (by omega) (by omega), ?_⟩
              intro g162 eg162
              refine ⟨i_in (by omega) (by omega), ?_⟩
              intro g170 eg170
              intro x171 ex171
              have f43 : x171.toInt = l4_33.toInt + 1 := i_add (a := l4_33.toInt) (b := 1) ex171 rfl rfl (by omega) (by omega)
              exact j_187 x171 v_printedMany_136 g162 g170 v_printed_136 (by omega) (by omega) (by omega) (by omega) (by omega) (by first | exact zPI_push u82_0 (by omega) eg153 eg162 eg170 (by omega) (by omega) (by omega) (by omega) (by rw [← zg_at2 ex152 (by omega)]) (by omega) (by rw [← hw9]; exact zS_lam u0 (by omega) (by omega) (by omega) (by rw [← zg_at2 ex103 (by omega)]; omega)) (by omega) (by omega) rfl | exact zPI_pop u82_0 hz (by omega) (by rw [← hw9]; omega) (by rw [← hw9]; exact u181_0) (by omega) rfl)
            refine ⟨fun c118 => ?_, fun c118 => ?_⟩
            · have f44 : x115.toInt ≠ 6 := i_ne (a := x115.toInt) (b := 6) rfl rfl c118
              exact j_136 v_printedMany_82 v_printed_82 (by omega) (by omega) (by omega)
            · have f45 : x115.toInt = 6 := i_eq (a := x115.toInt) (b := 6) rfl rfl c118
              intro x126 ex126
              have f46 : x126.toInt = x46.toInt + 1 := i_add (a := x46.toInt) (b := 1) ex126 rfl rfl (by omega) (by omega)
              refine ⟨fun c127 => ?_, fun c127 => ?_⟩
              · have f47 : x90.toInt ≤ x126.toInt := i_le (a := x90.toInt) (b := x126.toInt) rfl rfl c127
                exact j_136 v_printedMany_82 v_printed_82 (by omega) (by omega) (by omega)
              · have f48 : x126.toInt < x90.toInt := i_nle (a := x90.toInt) (b := x126.toInt) rfl rfl c127
                refine ok_X12_put (by omega) (by omega) (fun r133_0 r133_1 f49 => ?_)
                exact j_136 r133_0 r133_1 (by omega) (by omega) (by omega)
        refine ⟨fun c59 => ?_, fun c59 => ?_⟩
        · have f50 : x57.toInt ≠ (-1) := i_ne (a := x57.toInt) (b := (-1)) rfl rfl c59
          exact j_82 v_printedMany_33 v_opened_33 v_waitingHolder_33 v_printed_33 (by omega) (by omega) (by first | exact zPO_op u33_0 (by omega) | exact zPO_hd u33_0 hz (by omega) (by omega) eg81 (by omega) (by omega) (by rw [← hw9]; exact (zS_e u0 (by omega) (by omega)).1) (by rw [← hw9]; exact u66_0))
        · have f51 : x57.toInt = (-1) := i_eq (a := x57.toInt) (b := (-1)) rfl rfl c59
          refine ok_X12_printHead (v_least := v_least) (v_most := v_most) (v_end := v_end) (v_many := v_many) (v_captures := v_captures) (by omega) (by omega) (by omega) (by omega) (by exact u0) (by omega) (by have h9 := zPI_hd u33_0 hz (by omega) (by omega); rw [← hw9] at h9; omega) (fun r66_0 r66_1 r66_2 f52 f53 u66_0 => ?_)
          intro x76 ex76
          have f54 : x76.toInt = l4_33.toInt - 1 := i_sub (a := l4_33.toInt) (b := 1) ex76 rfl rfl (by omega) (by omega)
          intro x80 ex80
          have f55 : x80.toInt = x46.toInt + 1 := i_add (a := x46.toInt) (b := 1) ex80 rfl rfl (by omega) (by omega)
          refine ⟨i_in (by omega) (by omega), ?_⟩
          intro g81 eg81
          exact j_82 r66_0 r66_1 g81 r66_2 (by omega) (by omega) (by first | exact zPO_op u33_0 (by omega) | exact zPO_hd u33_0 hz (by omega) (by omega) eg81 (by omega) (by omega) (by rw [← hw9]; exact (zS_e u0 (by omega) (by omega)).1) (by rw [← hw9]; exact u66_0))
  exact ⟨((3 * zg v_many p1.toInt + 1)).toNat + 1, j_33   (((3 * zg v_many p1.toInt + 1)).toNat + 1) 1 0 (-1) g22 g29 v_printed (3 * zg v_many p1.toInt + 1) (by omega) (by omega) (by first | assumption | exact zPI_0 (by subst eg22; exact zg_eq (i := 0)) (by subst eg29; exact zg_eq (i := 0)) (by omega) (by omega) (by omega)) (by omega)⟩
