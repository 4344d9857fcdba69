set_option maxHeartbeats 4000000 in
theorem ok_X12_printTail {p1 : Int32} {p2 : Int32} {v_printedMany : Int32} {v_sort : Nat → Int32} {v_value : Nat → Int32} {v_least : Nat → Int32} {v_most : Nat → Int32} {v_holder : Nat → Int32} {v_printed : Nat → Int32} {v_parts : Nat → Int32} {v_end : Nat → Int32} {v_firstPart : Nat → Int32} {v_partBegin : Nat → Int32} {v_partEnd : Nat → Int32} {v_many : Nat → Int32} {v_captures : Nat → Int32} {Q : Int32 → (Nat → Int32) → Prop} (a0 : 0 ≤ p1.toInt) (a1 : p1.toInt ≤ 5) (a2 : 0 ≤ p2.toInt) (a3 : 0 ≤ v_printedMany.toInt) (a4 : v_printedMany.toInt ≤ 3980) (u0 : zSl v_sort v_value v_least v_most v_holder v_parts v_end v_firstPart v_partBegin v_partEnd (220 * p1.toInt) (420 * p1.toInt) (zg v_many p1.toInt) (zg v_captures p1.toInt)) (u1 : p2.toInt < zg v_many p1.toInt) (hq : ∀ (ov_printedMany : Int32) (ov_printed : Nat → Int32), v_printedMany.toInt ≤ ov_printedMany.toInt → ov_printedMany.toInt ≤ 3999 → (ov_printedMany.toInt ≤ v_printedMany.toInt + zrt v_sort (220 * p1.toInt) p2.toInt) → Q ov_printedMany ov_printed) : w_X12_printTail p1 p2 v_printedMany v_sort v_value v_least v_most v_holder v_printed Q := by
  have q_t : (bz true).toInt = 1 := rfl
  have q_f : (bz false).toInt = 0 := rfl
  have q_41 : (41 : Int32).toInt = 41 := rfl
  have q_42 : (42 : Int32).toInt = 42 := rfl
  have q_43 : (43 : Int32).toInt = 43 := rfl
  have q_44 : (44 : Int32).toInt = 44 := rfl
  have q_63 : (63 : Int32).toInt = 63 := rfl
  have q_123 : (123 : Int32).toInt = 123 := rfl
  have q_125 : (125 : Int32).toInt = 125 := rfl
  unfold w_X12_printTail
  have f1 : 1 ≤ (zg v_many p1.toInt : Int) := (zS_n u0).1
  have f2 : (zg v_many p1.toInt : Int) ≤ 220 := (zS_n u0).2
  have f3 : 0 ≤ (zg v_captures p1.toInt : Int) := (zS_c u0).1
  have f4 : (zg v_captures p1.toInt : Int) ≤ 9 := (zS_c u0).2
  have f5 : p2.toInt + 1 ≤ (zg v_many p1.toInt : Int) := u1
  intro x4 ex4
  have f6 : x4.toInt = 220 * p1.toInt := i_mul (a := 220) (b := p1.toInt) ex4 rfl rfl (by omega) (by omega)
  intro x6 ex6
  have f7 : x6.toInt = x4.toInt + p2.toInt := i_add (a := x4.toInt) (b := p2.toInt) ex6 rfl rfl (by omega) (by omega)
  refine ⟨i_in (by omega) (by omega), ?_⟩
  intro x13 ex13
  have f8 : 0 ≤ x13.toInt ∧ x13.toInt ≤ 11 := by have h9 := zS_sort (k := (-220) * p1.toInt + x6.toInt) u0 ex13 (by omega) (by omega) (by omega); omega
  have hs13 := zg_at2 (k := 220 * p1.toInt + p2.toInt) ex13 (by omega)
  have j_176 : ∀ (v_printedMany_176 : Int32) (v_printed_176 : Nat → Int32), v_printedMany.toInt ≤ v_printedMany_176.toInt → v_printedMany_176.toInt ≤ v_printedMany.toInt + 8 → ((v_printedMany_176.toInt ≤ v_printedMany.toInt + 8 ∧ x13.toInt = 7) ∨ (v_printedMany_176.toInt ≤ v_printedMany.toInt ∧ x13.toInt ≠ 7)) → w_X12_printTail_176 p1 p2 v_sort v_holder Q x6 v_printedMany_176 v_printed_176 := by
    intro v_printedMany_176 v_printed_176 f9 f10 u176_0
    unfold w_X12_printTail_176
    refine ⟨i_in (by omega) (by omega), ?_⟩
    intro x181 ex181
    have f11 : x181.toInt = x13.toInt := congrArg Int32.toInt (ex181.trans ex13.symm)
    have f12 : 0 ≤ x181.toInt ∧ x181.toInt ≤ 11 := by have h9 := zS_sort (k := (-220) * p1.toInt + x6.toInt) u0 ex181 (by omega) (by omega) (by omega); omega
    have j_193 : ∀ (v_printedMany_193 : Int32) (v_printed_193 : Nat → Int32), v_printedMany.toInt ≤ v_printedMany_193.toInt → v_printedMany_193.toInt ≤ v_printedMany.toInt + 9 → ((v_printedMany_193.toInt = v_printedMany_176.toInt ∧ x181.toInt ≤ 7) ∨ (8 ≤ x181.toInt ∧ v_printedMany_193.toInt = v_printedMany_176.toInt + 1)) → ((v_printedMany_193.toInt ≤ v_printedMany.toInt + 8 ∧ x13.toInt = 7) ∨ (v_printedMany_193.toInt ≤ v_printedMany.toInt ∧ x13.toInt ≠ 7) ∨ (v_printedMany_193.toInt ≤ v_printedMany.toInt + 1 ∧ 8 ≤ x13.toInt)) → w_X12_printTail_193 p1 p2 v_sort v_holder Q v_printedMany_193 v_printed_193 := by
      intro v_printedMany_193 v_printed_193 f13 f14 f15 u193_0
      unfold w_X12_printTail_193
      refine ok_X12_isWrapped (v_value := v_value) (v_least := v_least) (v_most := v_most) (v_parts := v_parts) (v_end := v_end) (v_firstPart := v_firstPart) (v_partBegin := v_partBegin) (v_partEnd := v_partEnd) (v_many := v_many) (v_captures := v_captures) (by omega) (by omega) (by omega) (by first | assumption | omega) (by first | assumption | omega) (fun r196 f16 f17 f18 u196_0 => ?_)
      have j_208 : ∀ (v_printedMany_208 : Int32) (v_printed_208 : Nat → Int32), v_printedMany.toInt ≤ v_printedMany_208.toInt → ((v_printedMany_208.toInt = v_printedMany_193.toInt ∧ r196.toInt = 0) ∨ (v_printedMany_208.toInt = v_printedMany_193.toInt + 1)) → ((v_printedMany_208.toInt ≤ v_printedMany.toInt + 9 ∧ x13.toInt = 7) ∨ (v_printedMany_208.toInt ≤ v_printedMany.toInt ∧ x13.toInt ≠ 7) ∨ (v_printedMany_208.toInt ≤ v_printedMany.toInt + 1 ∧ 5 ≤ x13.toInt)) → w_X12_printTail_208 Q v_printedMany_208 v_printed_208 := by
        intro v_printedMany_208 v_printed_208 f19 f20 u208_0
        unfold w_X12_printTail_208
        exact hq v_printedMany_208 v_printed_208 (by omega) (by omega) (by have h9 := zrt_b (b := (220 * p1.toInt)) (k := p2.toInt) ex13 (by omega); have h8 := zrt_5 (so := v_sort) (b := (220 * p1.toInt)) (k := p2.toInt) ex13 (by omega); omega)
      refine ⟨fun c199 => ?_, fun c199 => ?_⟩
      · have f21 : r196.toInt = 0 := i_eq (a := r196.toInt) (b := 0) rfl rfl c199
        exact j_208 v_printedMany_193 v_printed_193 (by omega) (by omega) (by omega)
      · have f22 : r196.toInt ≠ 0 := i_ne (a := r196.toInt) (b := 0) rfl rfl c199
        refine ok_X12_put (by omega) (by omega) (fun r205_0 r205_1 f23 => ?_)
        exact j_208 r205_0 r205_1 (by omega) (by omega) (by omega)
    refine ⟨fun c184 => ?_, fun c184 => ?_⟩
    · have f24 : x181.toInt < 8 := i_lt (a := x181.toInt) (b := 8) rfl rfl c184
      exact j_193 v_printedMany_176 v_printed_176 (by omega) (by omega) (by omega) (by omega)
    · have f25 : 8 ≤ x181.toInt := i_nlt (a := x181.toInt) (b := 8) rfl rfl c184
      refine ok_X12_put (by omega) (by omega) (fun r190_0 r190_1 f26 => ?_)
      exact j_193 r190_0 r190_1 (by omega) (by omega) (by omega) (by omega)
  refine ⟨fun c16 => ?_, fun c16 => ?_⟩
  · have f27 : x13.toInt ≠ 7 := i_ne (a := x13.toInt) (b := 7) rfl rfl c16
    exact j_176 v_printedMany v_printed (by omega) (by omega) (by omega)
  · have f28 : x13.toInt = 7 := i_eq (a := x13.toInt) (b := 7) rfl rfl c16
    refine ⟨i_in (by omega) (by omega), ?_⟩
    intro x24 ex24
    have f29 : 0 ≤ x24.toInt ∧ x24.toInt ≤ 20 := by have h9 := zS_least (k := (-220) * p1.toInt + x6.toInt) u0 ex24 (by omega) (by omega) (by omega); omega
    refine ⟨i_in (by omega) (by omega), ?_⟩
    intro x32 ex32
    have f30 : 0 ≤ x32.toInt + 1 ∧ x32.toInt ≤ 20 := by have h9 := zS_most (k := (-220) * p1.toInt + x6.toInt) u0 ex32 (by omega) (by omega) (by omega); omega
    have j_146 : ∀ (v_printedMany_146 : Int32) (v_printed_146 : Nat → Int32), v_printedMany.toInt ≤ v_printedMany_146.toInt → v_printedMany_146.toInt ≤ v_printedMany.toInt + 8 → v_printedMany_146.toInt ≤ v_printedMany.toInt + 7 → 1 ≤ v_printedMany_146.toInt → w_X12_printTail_146 p1 p2 v_sort v_value v_holder Q x6 v_printedMany_146 v_printed_146 := by
      intro v_printedMany_146 v_printed_146 f31 f32 f33 f34
      unfold w_X12_printTail_146
      refine ⟨i_in (by omega) (by omega), ?_⟩
      intro x151 ex151
      have f35 : 0 ≤ x151.toInt ∧ x151.toInt ≤ 65535 := by have h9 := zS_value (k := (-220) * p1.toInt + x6.toInt) u0 ex151 (by omega) (by omega) (by omega); omega
      refine ⟨fun c152 => ?_, fun c152 => ?_⟩
      · have f36 : x151.toInt ≤ 0 := i_le (a := x151.toInt) (b := 0) rfl rfl c152
        exact j_176 v_printedMany_146 v_printed_146 (by omega) (by omega) (by omega)
      · have f37 : 0 < x151.toInt := i_nle (a := x151.toInt) (b := 0) rfl rfl c152
        refine ⟨i_in (by omega) (by omega), ?_⟩
        intro x161 ex161
        have f38 : x161.toInt = x151.toInt := congrArg Int32.toInt (ex161.trans ex151.symm)
        have f39 : 0 ≤ x161.toInt ∧ x161.toInt ≤ 65535 := by have h9 := zS_value (k := (-220) * p1.toInt + x6.toInt) u0 ex161 (by omega) (by omega) (by omega); omega
        have j_173 : ∀ (s0_173 : Int32), ((s0_173.toInt = 43) ∨ (s0_173.toInt = 63 ∧ x161.toInt = 1)) → w_X12_printTail_173 p1 p2 v_sort v_holder Q s0_173 x6 v_printedMany_146 v_printed_146 := by
          intro s0_173 f40
          unfold w_X12_printTail_173
          refine ok_X12_put (by omega) (by omega) (fun r173_0 r173_1 f41 => ?_)
          exact j_176 r173_0 r173_1 (by omega) (by omega) (by omega)
        refine ⟨fun c163 => ?_, fun c163 => ?_⟩
        · have f42 : x161.toInt ≠ 1 := i_ne (a := x161.toInt) (b := 1) rfl rfl c163
          exact j_173 43 (by omega)
        · have f43 : x161.toInt = 1 := i_eq (a := x161.toInt) (b := 1) rfl rfl c163
          exact j_173 63 (by omega)
    have j_55 : w_X12_printTail_55 p1 p2 v_sort v_value v_holder Q x6 x24 x32 v_printedMany v_printed := by
      unfold w_X12_printTail_55
      have j_76 : w_X12_printTail_76 p1 p2 v_sort v_value v_holder Q x6 x24 x32 v_printedMany v_printed := by
        unfold w_X12_printTail_76
        have j_96 : w_X12_printTail_96 p1 p2 v_sort v_value v_holder Q x6 x24 x32 v_printedMany v_printed := by
          unfold w_X12_printTail_96
          refine ok_X12_put (by omega) (by omega) (fun r99_0 r99_1 f44 => ?_)
          refine ok_X12_putNumber (by omega) (by omega) (by omega) (by omega) (fun r105_0 r105_1 f45 f46 f47 => ?_)
          have j_121 : ∀ (v_printedMany_121 : Int32) (v_printed_121 : Nat → Int32), v_printedMany.toInt ≤ v_printedMany_121.toInt → v_printedMany_121.toInt ≤ v_printedMany.toInt + 8 → v_printedMany_121.toInt ≤ v_printedMany.toInt + 7 → v_printedMany_121.toInt ≤ v_printedMany.toInt + 4 → ((v_printedMany_121.toInt = r105_0.toInt ∧ x32.toInt = x24.toInt) ∨ (v_printedMany_121.toInt = r105_0.toInt + 1)) → w_X12_printTail_121 p1 p2 v_sort v_value v_holder Q x6 x24 x32 v_printedMany_121 v_printed_121 := by
            intro v_printedMany_121 v_printed_121 f48 f49 f50 f51 f52
            unfold w_X12_printTail_121
            have j_140 : ∀ (v_printedMany_140 : Int32) (v_printed_140 : Nat → Int32), v_printedMany.toInt ≤ v_printedMany_140.toInt → v_printedMany_140.toInt ≤ v_printedMany.toInt + 8 → v_printedMany_140.toInt ≤ v_printedMany.toInt + 7 → v_printedMany_140.toInt ≤ v_printedMany.toInt + 6 → ((v_printedMany_140.toInt = v_printedMany_121.toInt ∧ x32.toInt = x24.toInt) ∨ (v_printedMany_140.toInt = v_printedMany_121.toInt ∧ x32.toInt + 1 = 0) ∨ (v_printedMany_121.toInt + 1 ≤ v_printedMany_140.toInt ∧ v_printedMany_140.toInt ≤ v_printedMany_121.toInt + 3)) → w_X12_printTail_140 p1 p2 v_sort v_value v_holder Q x6 v_printedMany_140 v_printed_140 := by
              intro v_printedMany_140 v_printed_140 f53 f54 f55 f56 f57
              unfold w_X12_printTail_140
              refine ok_X12_put (by omega) (by omega) (fun r143_0 r143_1 f58 => ?_)
              exact j_146 r143_0 r143_1 (by omega) (by omega) (by omega) (by omega)
            refine ⟨fun c125 => ?_, fun c125 => ?_⟩
            · have f59 : x32.toInt = x24.toInt := i_eq (a := x32.toInt) (b := x24.toInt) rfl rfl c125
              exact j_140 v_printedMany_121 v_printed_121 (by omega) (by omega) (by omega) (by omega) (by omega)
            · have f60 : x32.toInt ≠ x24.toInt := i_ne (a := x32.toInt) (b := x24.toInt) rfl rfl c125
              refine ⟨fun c131 => ?_, fun c131 => ?_⟩
              · have f61 : x32.toInt = (-1) := i_eq (a := x32.toInt) (b := (-1)) rfl rfl c131
                exact j_140 v_printedMany_121 v_printed_121 (by omega) (by omega) (by omega) (by omega) (by omega)
              · have f62 : x32.toInt ≠ (-1) := i_ne (a := x32.toInt) (b := (-1)) rfl rfl c131
                refine ok_X12_putNumber (by omega) (by omega) (by omega) (by omega) (fun r137_0 r137_1 f63 f64 f65 => ?_)
                exact j_140 r137_0 r137_1 (by omega) (by omega) (by omega) (by omega) (by omega)
          refine ⟨fun c112 => ?_, fun c112 => ?_⟩
          · have f66 : x32.toInt = x24.toInt := i_eq (a := x32.toInt) (b := x24.toInt) rfl rfl c112
            exact j_121 r105_0 r105_1 (by omega) (by omega) (by omega) (by omega) (by omega)
          · have f67 : x32.toInt ≠ x24.toInt := i_ne (a := x32.toInt) (b := x24.toInt) rfl rfl c112
            refine ok_X12_put (by omega) (by omega) (fun r118_0 r118_1 f68 => ?_)
            exact j_121 r118_0 r118_1 (by omega) (by omega) (by omega) (by omega) (by omega)
        refine ⟨fun c78 => ?_, fun c78 => ?_⟩
        · have f69 : x24.toInt ≠ 0 := i_ne (a := x24.toInt) (b := 0) rfl rfl c78
          exact j_96  
        · have f70 : x24.toInt = 0 := i_eq (a := x24.toInt) (b := 0) rfl rfl c78
          refine ⟨fun c84 => ?_, fun c84 => ?_⟩
          · have f71 : x32.toInt ≠ 1 := i_ne (a := x32.toInt) (b := 1) rfl rfl c84
            exact j_96  
          · have f72 : x32.toInt = 1 := i_eq (a := x32.toInt) (b := 1) rfl rfl c84
            refine ok_X12_put (by omega) (by omega) (fun r90_0 r90_1 f73 => ?_)
            exact j_146 r90_0 r90_1 (by omega) (by omega) (by omega) (by omega)
      refine ⟨fun c58 => ?_, fun c58 => ?_⟩
      · have f74 : x24.toInt ≠ 1 := i_ne (a := x24.toInt) (b := 1) rfl rfl c58
        exact j_76  
      · have f75 : x24.toInt = 1 := i_eq (a := x24.toInt) (b := 1) rfl rfl c58
        refine ⟨fun c64 => ?_, fun c64 => ?_⟩
        · have f76 : x32.toInt ≠ (-1) := i_ne (a := x32.toInt) (b := (-1)) rfl rfl c64
          exact j_76  
        · have f77 : x32.toInt = (-1) := i_eq (a := x32.toInt) (b := (-1)) rfl rfl c64
          refine ok_X12_put (by omega) (by omega) (fun r70_0 r70_1 f78 => ?_)
          exact j_146 r70_0 r70_1 (by omega) (by omega) (by omega) (by omega)
    refine ⟨fun c37 => ?_, fun c37 => ?_⟩
    · have f79 : x24.toInt ≠ 0 := i_ne (a := x24.toInt) (b := 0) rfl rfl c37
      exact j_55  
    · have f80 : x24.toInt = 0 := i_eq (a := x24.toInt) (b := 0) rfl rfl c37
      refine ⟨fun c43 => ?_, fun c43 => ?_⟩
      · have f81 : x32.toInt ≠ (-1) := i_ne (a := x32.toInt) (b := (-1)) rfl rfl c43
        exact j_55  
      · have f82 : x32.toInt = (-1) := i_eq (a := x32.toInt) (b := (-1)) rfl rfl c43
        refine ok_X12_put (by omega) (by omega) (fun r49_0 r49_1 f83 => ?_)
        exact j_146 r49_0 r49_1 (by omega) (by omega) (by omega) (by omega)
set_option maxHeartbeats 4000000 in
theorem ok_X12_printFrom {p1 : Int32} {p2 : Int32} {v_nameOf : Nat → Int32} {v_sort : Nat → Int32} {v_value : Nat → Int32} {v_least : Nat → Int32} {v_most : Nat → Int32} {v_holder : Nat → Int32} {v_parts : Nat → Int32} {v_end : Nat → Int32} {v_firstPart : Nat → Int32} {v_partBegin : Nat → Int32} {v_partEnd : Nat → Int32} {v_waiting : Nat → Int32} {v_waitingHolder : Nat → Int32} {v_printed : Nat → Int32} {v_many : Nat → Int32} {v_captures : Nat → Int32} {Q : Int32 → Int32 → (Nat → Int32) → (Nat → Int32) → (Nat → Int32) → Prop} (a0 : 0 ≤ p1.toInt) (a1 : p1.toInt ≤ 5) (a2 : 0 ≤ p2.toInt) (u0 : zSl v_sort v_value v_least v_most v_holder v_parts v_end v_firstPart v_partBegin v_partEnd (220 * p1.toInt) (420 * p1.toInt) (zg v_many p1.toInt) (zg v_captures p1.toInt)) (u1 : p2.toInt < zg v_many p1.toInt) (hq : ∀ (ov_printedMany : Int32) (ov_opened : Int32) (ov_waiting : Nat → Int32) (ov_waitingHolder : Nat → Int32) (ov_printed : Nat → Int32), 0 ≤ ov_printedMany.toInt + 1 → 0 ≤ ov_printedMany.toInt → ov_printedMany.toInt ≤ 3332 → Q ov_printedMany ov_opened ov_waiting ov_waitingHolder ov_printed) : w_X12_printFrom p1 p2 v_nameOf v_sort v_value v_least v_most v_holder v_parts v_end v_firstPart v_partBegin v_partEnd v_waiting v_waitingHolder v_printed Q := by
  have q_t : (bz true).toInt = 1 := rfl
  have q_f : (bz false).toInt = 0 := rfl
  have q_m1 : ((-1) : Int32).toInt = (-1) := rfl
  have q_0 : (0 : Int32).toInt = 0 := rfl
  have q_1 : (1 : Int32).toInt = 1 := rfl
  have q_124 : (124 : Int32).toInt = 124 := rfl
  unfold w_X12_printFrom
  have f1 : 1 ≤ (zg v_many p1.toInt : Int) := (zS_n u0).1
  have f2 : (zg v_many p1.toInt : Int) ≤ 220 := (zS_n u0).2
  have f3 : 0 ≤ (zg v_captures p1.toInt : Int) := (zS_c u0).1
  have f4 : (zg v_captures p1.toInt : Int) ≤ 9 := (zS_c u0).2
  have f5 : p2.toInt + 1 ≤ (zg v_many p1.toInt : Int) := u1
  have hz := fun k (k0 : 0 ≤ k) (k1 : k < zg v_many p1.toInt) => zvs_nn (k := k) u0 k0 k1
  have h33 := zS_33 u0
  intro x4 ex4
  have f6 : x4.toInt = 220 * p1.toInt := i_mul (a := 220) (b := p1.toInt) ex4 rfl rfl (by omega) (by omega)
  intro g22 eg22
  intro g29 eg29
  have j_33 : ∀ n_33 : Nat, ∀ (l4_33 : Int32) (v_printedMany_33 : Int32) (v_opened_33 : Int32) (v_waiting_33 : Nat → Int32) (v_waitingHolder_33 : Nat → Int32) (v_printed_33 : Nat → Int32) (gm_33 : Int), 0 ≤ v_printedMany_33.toInt → 0 ≤ l4_33.toInt → (zPI v_waiting_33 v_waitingHolder_33 v_end v_sort (zvs v_sort v_value v_parts v_firstPart v_partBegin v_partEnd (220 * p1.toInt) (420 * p1.toInt)) (220 * p1.toInt) (zg v_many p1.toInt) l4_33.toInt v_printedMany_33.toInt gm_33) → (gm_33).toNat < n_33 → w_X12_printFrom_33 p1 v_nameOf v_sort v_value v_least v_most v_holder v_parts v_end v_firstPart v_partBegin v_partEnd Q x4 n_33 l4_33 v_printedMany_33 v_opened_33 v_waiting_33 v_waitingHolder_33 v_printed_33 := by
    intro n_33
    induction n_33 with
    | zero =>
      intro l4_33 v_printedMany_33 v_opened_33 v_waiting_33 v_waitingHolder_33 v_printed_33 gm_33 f7 f8 u33_0 hm_33
      exfalso; omega
    | succ n_33 ih_33 =>
      intro l4_33 v_printedMany_33 v_opened_33 v_waiting_33 v_waitingHolder_33 v_printed_33 gm_33 f7 f8 u33_0 hm_33
      unfold w_X12_printFrom_33
      unfold w_X12_printFrom_33B
      refine ⟨fun c35 => ?_, fun c35 => ?_⟩
      · have f9 : l4_33.toInt ≤ 0 := i_le (a := l4_33.toInt) (b := 0) rfl rfl c35
        have f10 : v_printedMany_33.toInt ≤ 3332 := by have h9 := zPI_end u33_0 hz (by omega); omega
        exact hq v_printedMany_33 v_opened_33 v_waiting_33 v_waitingHolder_33 v_printed_33 (by omega) (by omega) (by omega)
      · have f11 : 0 < l4_33.toInt := i_nle (a := l4_33.toInt) (b := 0) rfl rfl c35
        have hl9 := zPI_le u33_0 hz (by omega)
        have f12 : l4_33.toInt ≤ 220 := by omega
        have f13 : v_printedMany_33.toInt ≤ 3333 := by omega
        intro x45 ex45
        have f14 : x45.toInt = l4_33.toInt - 1 := i_sub (a := l4_33.toInt) (b := 1) ex45 rfl rfl (by omega) (by omega)
        refine ⟨i_in (by omega) (by omega), ?_⟩
        intro x46 ex46
        have hw9 := zg_at2 (k := l4_33.toInt - 1) ex46 (by omega)
        have f15 : 0 ≤ x46.toInt := by omega
        have f16 : x46.toInt + 1 ≤ (zg v_many p1.toInt : Int) := by omega
        intro x56 ex56
        have f17 : x56.toInt = l4_33.toInt - 1 := i_sub (a := l4_33.toInt) (b := 1) ex56 rfl rfl (by omega) (by omega)
        refine ⟨i_in (by omega) (by omega), ?_⟩
        intro x57 ex57
        have hh9 := zg_at2 (k := l4_33.toInt - 1) ex57 (by omega)
        have j_82 : ∀ (v_printedMany_82 : Int32) (v_opened_82 : Int32) (v_waitingHolder_82 : Nat → Int32) (v_printed_82 : Nat → Int32), v_printedMany_33.toInt ≤ v_printedMany_82.toInt → ((v_printedMany_82.toInt = v_printedMany_33.toInt) ∨ (v_printedMany_33.toInt ≤ v_printedMany_82.toInt ∧ v_printedMany_82.toInt ≤ 3999)) → (zPO v_waiting_33 v_waitingHolder_82 v_end v_sort (zvs v_sort v_value v_parts v_firstPart v_partBegin v_partEnd (220 * p1.toInt) (420 * p1.toInt)) (220 * p1.toInt) (zg v_many p1.toInt) l4_33.toInt v_printedMany_82.toInt gm_33) → w_X12_printFrom_82 p1 v_sort v_value v_least v_most v_holder v_end x4 Q (w_X12_printFrom_33 p1 v_nameOf v_sort v_value v_least v_most v_holder v_parts v_end v_firstPart v_partBegin v_partEnd Q x4 n_33) l4_33 x46 v_printedMany_82 v_opened_82 v_waiting_33 v_waitingHolder_82 v_printed_82 := by
          intro v_printedMany_82 v_opened_82 v_waitingHolder_82 v_printed_82 f18 f19 u82_0
          unfold w_X12_printFrom_82
          have hq9 := zPI_le (Or.inl u82_0) hz (by omega)
          have f20 : v_printedMany_82.toInt ≤ 3333 := by omega
          intro x89 ex89
          have f21 : x89.toInt = l4_33.toInt - 1 := i_sub (a := l4_33.toInt) (b := 1) ex89 rfl rfl (by omega) (by omega)
          refine ⟨i_in (by omega) (by omega), ?_⟩
          intro x90 ex90
          have hc9 := zPO_c u82_0 (by omega)
          have hc8 := zg_at2 (k := l4_33.toInt - 1) ex90 (by omega)
          have he9 := zS_e (k := x46.toInt) u0 (by omega) (by omega)
          rw [← hw9, ← hc8] at hc9
          have f22 : x46.toInt + 1 ≤ x90.toInt := by omega
          have f23 : x90.toInt ≤ (zg v_many p1.toInt : Int) := by omega
          intro x102 ex102
          have f24 : x102.toInt = x4.toInt + x46.toInt := i_add (a := x4.toInt) (b := x46.toInt) ex102 rfl rfl (by omega) (by omega)
          refine ⟨i_in (by omega) (by omega), ?_⟩
          intro x103 ex103
          have f25 : x102.toInt + 1 ≤ 220 * p1.toInt + x103.toInt ∧ x103.toInt ≤ (zg v_many p1.toInt : Int) := by have h9 := zS_end (k := (-220) * p1.toInt + x102.toInt) u0 ex103 (by omega) (by omega) (by omega); omega
          have j_187 : ∀ (l4_187 : Int32) (v_printedMany_187 : Int32) (v_waiting_187 : Nat → Int32) (v_waitingHolder_187 : Nat → Int32) (v_printed_187 : Nat → Int32), l4_33.toInt ≤ l4_187.toInt + 1 → l4_187.toInt ≤ l4_33.toInt + 1 → v_printedMany_33.toInt ≤ v_printedMany_187.toInt → ((x103.toInt ≤ x90.toInt ∧ v_printedMany_82.toInt ≤ v_printedMany_187.toInt ∧ v_printedMany_187.toInt ≤ 3999 ∧ l4_187.toInt + 1 = l4_33.toInt) ∨ (x90.toInt + 1 ≤ x103.toInt ∧ v_printedMany_33.toInt ≤ v_printedMany_187.toInt ∧ l4_187.toInt = l4_33.toInt + 1)) → v_printedMany_187.toInt ≤ 3999 → (zPI v_waiting_187 v_waitingHolder_187 v_end v_sort (zvs v_sort v_value v_parts v_firstPart v_partBegin v_partEnd (220 * p1.toInt) (420 * p1.toInt)) (220 * p1.toInt) (zg v_many p1.toInt) l4_187.toInt v_printedMany_187.toInt (gm_33 - 1)) → w_X12_printFrom_187 Q (w_X12_printFrom_33 p1 v_nameOf v_sort v_value v_least v_most v_holder v_parts v_end v_firstPart v_partBegin v_partEnd Q x4 n_33) l4_187 v_printedMany_187 v_opened_82 v_waiting_187 v_waitingHolder_187 v_printed_187 := by
            intro l4_187 v_printedMany_187 v_waiting_187 v_waitingHolder_187 v_printed_187 f26 f27 f28 f29 f30 u187_0
            unfold w_X12_printFrom_187
            exact ih_33 l4_187 v_printedMany_187 v_opened_82 v_waiting_187 v_waitingHolder_187 v_printed_187 (gm_33 - 1) (by omega) (by omega) (by first | assumption | exact zPI_0 (by subst eg22; exact zg_eq (i := 0)) (by subst eg29; exact zg_eq (i := 0)) (by omega) (by omega) (by omega)) (by omega)
          refine ⟨fun c104 => ?_, fun c104 => ?_⟩
          · have f31 : x103.toInt ≤ x90.toInt := i_le (a := x103.toInt) (b := x90.toInt) rfl rfl c104
            refine ok_X12_printTail (v_parts := v_parts) (v_end := v_end) (v_firstPart := v_firstPart) (v_partBegin := v_partBegin) (v_partEnd := v_partEnd) (v_many := v_many) (v_captures := v_captures) (by omega) (by omega) (by omega) (by omega) (by omega) (by exact u0) (by omega) (fun r181_0 r181_1 f32 f33 u181_0 => ?_)
            intro x184 ex184
            have f34 : x184.toInt = l4_33.toInt + (-1) := i_add (a := l4_33.toInt) (b := (-1)) ex184 rfl rfl (by omega) (by omega)
            exact j_187 x184 r181_0 v_waiting_33 v_waitingHolder_82 r181_1 (by omega) (by omega) (by omega) (by omega) (by omega) (by first | exact zPI_push u82_0 (by omega) eg153 eg162 eg170 (by omega) (by omega) (by omega) (by omega) (by rw [← zg_at2 ex152 (by omega)]) (by omega) (by rw [← hw9]; exact zS_lam u0 (by omega) (by omega) (by omega) (by rw [← zg_at2 ex103 (by omega)]; omega)) (by omega) (by omega) rfl | exact zPI_pop u82_0 hz (by omega) (by rw [← hw9]; omega) (by rw [← hw9]; exact u181_0) (by omega) rfl)
          · have f35 : x90.toInt < x103.toInt := i_nle (a := x103.toInt) (b := x90.toInt) rfl rfl c104
            intro x114 ex114
            have f36 : x114.toInt = x4.toInt + x46.toInt := i_add (a := x4.toInt) (b := x46.toInt) ex114 rfl rfl (by omega) (by omega)
            refine ⟨i_in (by omega) (by omega), ?_⟩
            intro x115 ex115
            have f37 : 0 ≤ x115.toInt ∧ x115.toInt ≤ 11 := by have h9 := zS_sort (k := (-220) * p1.toInt + x114.toInt) u0 ex115 (by omega) (by omega) (by omega); omega
            have j_136 : ∀ (v_printedMany_136 : Int32) (v_printed_136 : Nat → Int32), v_printedMany_33.toInt ≤ v_printedMany_136.toInt → ((v_printedMany_136.toInt = v_printedMany_82.toInt) ∨ (v_printedMany_136.toInt = v_printedMany_82.toInt ∧ x115.toInt = 6 ∧ x90.toInt ≤ x46.toInt + 1) ∨ (x115.toInt = 6 ∧ x46.toInt + 2 ≤ x90.toInt ∧ v_printedMany_136.toInt = v_printedMany_82.toInt + 1)) → (v_printedMany_136.toInt ≤ v_printedMany_82.toInt + 1) → w_X12_printFrom_136 v_end x4 Q (w_X12_printFrom_33 p1 v_nameOf v_sort v_value v_least v_most v_holder v_parts v_end v_firstPart v_partBegin v_partEnd Q x4 n_33) l4_33 x90 v_printedMany_136 v_opened_82 v_waiting_33 v_waitingHolder_82 v_printed_136 := by
              intro v_printedMany_136 v_printed_136 f38 f39 u136_0
              unfold w_X12_printFrom_136
              intro x143 ex143
              have f40 : x143.toInt = l4_33.toInt - 1 := i_sub (a := l4_33.toInt) (b := 1) ex143 rfl rfl (by omega) (by omega)
              intro x151 ex151
              have f41 : x151.toInt = x4.toInt + x90.toInt := i_add (a := x4.toInt) (b := x90.toInt) ex151 rfl rfl (by omega) (by omega)
              refine ⟨i_in (by omega) (by omega), ?_⟩
              intro x152 ex152
              have f42 : x151.toInt + 1 ≤ 220 * p1.toInt + x152.toInt ∧ x152.toInt ≤ (zg v_many p1.toInt : Int) := by have h9 := zS_end (k := (-220) * p1.toInt + x151.toInt) u0 ex152 (by omega) (by omega) (by omega); omega
              refine ⟨i_in (by omega) (by omega), ?_⟩
              intro g153 eg153
              refine ⟨i_in (by omega) (by omega), ?_⟩
              intro g162 eg162
              refine ⟨i_in (by omega) (by omega), ?_⟩
              intro g170 eg170
              intro x171 ex171
              have f43 : x171.toInt = l4_33.toInt + 1 := i_add (a := l4_33.toInt) (b := 1) ex171 rfl rfl (by omega) (by omega)
              exact j_187 x171 v_printedMany_136 g162 g170 v_printed_136 (by omega) (by omega) (by omega) (by omega) (by omega) (by first | exact zPI_push u82_0 (by omega) eg153 eg162 eg170 (by omega) (by omega) (by omega) (by omega) (by rw [← zg_at2 ex152 (by omega)]) (by omega) (by rw [← hw9]; exact zS_lam u0 (by omega) (by omega) (by omega) (by rw [← zg_at2 ex103 (by omega)]; omega)) (by omega) (by omega) rfl | exact zPI_pop u82_0 hz (by omega) (by rw [← hw9]; omega) (by rw [← hw9]; exact u181_0) (by omega) rfl)
            refine ⟨fun c118 => ?_, fun c118 => ?_⟩
            · have f44 : x115.toInt ≠ 6 := i_ne (a := x115.toInt) (b := 6) rfl rfl c118
              exact j_136 v_printedMany_82 v_printed_82 (by omega) (by omega) (by omega)
            · have f45 : x115.toInt = 6 := i_eq (a := x115.toInt) (b := 6) rfl rfl c118
              intro x126 ex126
              have f46 : x126.toInt = x46.toInt + 1 := i_add (a := x46.toInt) (b := 1) ex126 rfl rfl (by omega) (by omega)
              refine ⟨fun c127 => ?_, fun c127 => ?_⟩
              · have f47 : x90.toInt ≤ x126.toInt := i_le (a := x90.toInt) (b := x126.toInt) rfl rfl c127
                exact j_136 v_printedMany_82 v_printed_82 (by omega) (by omega) (by omega)
              · have f48 : x126.toInt < x90.toInt := i_nle (a := x90.toInt) (b := x126.toInt) rfl rfl c127
                refine ok_X12_put (by omega) (by omega) (fun r133_0 r133_1 f49 => ?_)
                exact j_136 r133_0 r133_1 (by omega) (by omega) (by omega)
        refine ⟨fun c59 => ?_, fun c59 => ?_⟩
        · have f50 : x57.toInt ≠ (-1) := i_ne (a := x57.toInt) (b := (-1)) rfl rfl c59
          exact j_82 v_printedMany_33 v_opened_33 v_waitingHolder_33 v_printed_33 (by omega) (by omega) (by first | exact zPO_op u33_0 (by omega) | exact zPO_hd u33_0 hz (by omega) (by omega) eg81 (by omega) (by omega) (by rw [← hw9]; exact (zS_e u0 (by omega) (by omega)).1) (by rw [← hw9]; exact u66_0))
        · have f51 : x57.toInt = (-1) := i_eq (a := x57.toInt) (b := (-1)) rfl rfl c59
          refine ok_X12_printHead (v_least := v_least) (v_most := v_most) (v_end := v_end) (v_many := v_many) (v_captures := v_captures) (by omega) (by omega) (by omega) (by omega) (by exact u0) (by omega) (by have h9 := zPI_hd u33_0 hz (by omega) (by omega); rw [← hw9] at h9; omega) (fun r66_0 r66_1 r66_2 f52 f53 u66_0 => ?_)
          intro x76 ex76
          have f54 : x76.toInt = l4_33.toInt - 1 := i_sub (a := l4_33.toInt) (b := 1) ex76 rfl rfl (by omega) (by omega)
          intro x80 ex80
          have f55 : x80.toInt = x46.toInt + 1 := i_add (a := x46.toInt) (b := 1) ex80 rfl rfl (by omega) (by omega)
          refine ⟨i_in (by omega) (by omega), ?_⟩
          intro g81 eg81
          exact j_82 r66_0 r66_1 g81 r66_2 (by omega) (by omega) (by first | exact zPO_op u33_0 (by omega) | exact zPO_hd u33_0 hz (by omega) (by omega) eg81 (by omega) (by omega) (by rw [← hw9]; exact (zS_e u0 (by omega) (by omega)).1) (by rw [← hw9]; exact u66_0))
  exact ⟨((3 * zg v_many p1.toInt + 1)).toNat + 1, j_33   (((3 * zg v_many p1.toInt + 1)).toNat + 1) 1 0 (-1) g22 g29 v_printed (3 * zg v_many p1.toInt + 1) (by omega) (by omega) (by first | assumption | exact zPI_0 (by subst eg22; exact zg_eq (i := 0)) (by subst eg29; exact zg_eq (i := 0)) (by omega) (by omega) (by omega)) (by omega)⟩
set_option maxHeartbeats 4000000 in
theorem ok_X12_print {p1 : Int32} {v_finding : Int32} {v_printedMany : Int32} {v_opened : Int32} {v_outMany : Int32} {v_outNumbers : Bool} {v_isThere : Nat → Bool} {v_nameOf : Nat → Int32} {v_sort : Nat → Int32} {v_value : Nat → Int32} {v_least : Nat → Int32} {v_most : Nat → Int32} {v_holder : Nat → Int32} {v_parts : Nat → Int32} {v_end : Nat → Int32} {v_firstPart : Nat → Int32} {v_partBegin : Nat → Int32} {v_partEnd : Nat → Int32} {v_waiting : Nat → Int32} {v_waitingHolder : Nat → Int32} {v_printed : Nat → Int32} {v_out : Nat → Int32} {v_many : Nat → Int32} {v_captures : Nat → Int32} {v_size : Nat → Int32} {v_positions : Nat → Int32} {Q : Int32 → Int32 → Int32 → Int32 → Int32 → Int32 → Bool → (Nat → Int32) → (Nat → Int32) → (Nat → Int32) → (Nat → Int32) → Prop} (a0 : 0 ≤ v_outMany.toInt) (a1 : v_outMany.toInt ≤ 400) (u0 : zAll v_isThere v_many v_captures v_sort v_value v_least v_most v_holder v_parts v_end v_firstPart v_partBegin v_partEnd v_size v_positions) (hq : ∀ (r : Int32) (ov_thrown : Int32) (ov_finding : Int32) (ov_printedMany : Int32) (ov_opened : Int32) (ov_outMany : Int32) (ov_outNumbers : Bool) (ov_waiting : Nat → Int32) (ov_waitingHolder : Nat → Int32) (ov_printed : Nat → Int32) (ov_out : Nat → Int32), ov_thrown.toInt = 0 → 0 ≤ r.toInt + 9 → r.toInt ≤ 400 → 0 ≤ ov_outMany.toInt → ov_outMany.toInt ≤ 400 → Q r ov_thrown ov_finding ov_printedMany ov_opened ov_outMany ov_outNumbers ov_waiting ov_waitingHolder ov_printed ov_out) : w_X12_print p1 v_finding v_printedMany v_opened v_outMany v_outNumbers v_isThere v_nameOf v_sort v_value v_least v_most v_holder v_parts v_end v_firstPart v_partBegin v_partEnd v_waiting v_waitingHolder v_printed v_out Q := by
  have q_t : (bz true).toInt = 1 := rfl
  have q_f : (bz false).toInt = 0 := rfl
  have q_m9 : ((-9) : Int32).toInt = (-9) := rfl
  have q_m2 : ((-2) : Int32).toInt = (-2) := rfl
  have q_0 : (0 : Int32).toInt = 0 := rfl
  have q_4 : (4 : Int32).toInt = 4 := rfl
  unfold w_X12_print
  refine ok_X12_wrongSlot  (fun r7 r7_0 f1 f2 f3 u7_0 => ?_)
  refine ⟨fun c10 => ?_, fun c10 => ?_⟩
  · have f4 : r7.toInt = 0 := i_eq (a := r7.toInt) (b := 0) rfl rfl c10
    have hSM := zAll_s u0 (u7_0 (by omega)) (by omega) (by omega)
    have hS := hSM.1
    have hM := hSM.2
    have f5 : 1 ≤ (zg v_many p1.toInt : Int) := (zS_n hS).1
    have f6 : (zg v_many p1.toInt : Int) ≤ 220 := (zS_n hS).2
    have f7 : 0 ≤ (zg v_captures p1.toInt : Int) := (zS_c hS).1
    have f8 : (zg v_captures p1.toInt : Int) ≤ 9 := (zS_c hS).2
    refine ok_X12_printFrom (v_many := v_many) (v_captures := v_captures) (by omega) (by omega) (by omega) (by exact hS) (by omega) (fun r19_0 r19_1 r19_2 r19_3 r19_4 f9 f10 f11 => ?_)
    refine ⟨fun c29 => ?_, fun c29 => ?_⟩
    · have f12 : r19_0.toInt ≤ 400 := i_le (a := r19_0.toInt) (b := 400) rfl rfl c29
      have j_42 : ∀ n_42 : Nat, ∀ (l2_42 : Int32) (v_out_42 : Nat → Int32), 0 ≤ l2_42.toInt → l2_42.toInt ≤ r19_0.toInt → ((-1) * l2_42.toInt + 2147483648).toNat < n_42 → w_X12_print_42 Q 0 r7_0 r19_0 r19_1 v_outMany v_outNumbers r19_2 r19_3 r19_4 n_42 l2_42 v_out_42 := by
        intro n_42
        induction n_42 with
        | zero =>
          intro l2_42 v_out_42 f13 f14 hm_42
          exfalso; omega
        | succ n_42 ih_42 =>
          intro l2_42 v_out_42 f13 f14 hm_42
          unfold w_X12_print_42
          unfold w_X12_print_42B
          refine ⟨fun c47 => ?_, fun c47 => ?_⟩
          · have f15 : r19_0.toInt ≤ l2_42.toInt := i_le (a := r19_0.toInt) (b := l2_42.toInt) rfl rfl c47
            exact hq r19_0 0 r7_0 r19_0 r19_1 r19_0 false r19_2 r19_3 r19_4 v_out_42 (by omega) (by omega) (by omega) (by omega) (by omega)
          · have f16 : l2_42.toInt < r19_0.toInt := i_nle (a := r19_0.toInt) (b := l2_42.toInt) rfl rfl c47
            refine ⟨i_in (by omega) (by omega), ?_⟩
            intro x60 ex60
            refine ⟨i_in (by omega) (by omega), ?_⟩
            intro g61 eg61
            intro x62 ex62
            have f17 : x62.toInt = l2_42.toInt + 1 := i_add (a := l2_42.toInt) (b := 1) ex62 rfl rfl (by omega) (by omega)
            exact ih_42 x62 g61  (by omega) (by omega) (by have h8_0 := i_rng l2_42; have h8_1 := i_rng x62; omega)
      exact ⟨(2147483648 : Int).toNat + 1, j_42   ((2147483648 : Int).toNat + 1) 0 v_out  (by omega) (by omega) (by omega)⟩
    · have f18 : 400 < r19_0.toInt := i_nle (a := r19_0.toInt) (b := 400) rfl rfl c29
      exact hq (-9) 0 4 r19_0 r19_1 v_outMany v_outNumbers r19_2 r19_3 r19_4 v_out (by omega) (by omega) (by omega) (by omega) (by omega)
  · have f19 : r7.toInt ≠ 0 := i_ne (a := r7.toInt) (b := 0) rfl rfl c10
    exact hq (-2) 0 r7_0 v_printedMany v_opened v_outMany v_outNumbers v_waiting v_waitingHolder v_printed v_out (by omega) (by omega) (by omega) (by omega) (by omega)
set_option maxHeartbeats 4000000 in
theorem ok_X12_isSamePrint {p1 : Int32} {p2 : Int32} {p3 : Int32} {v_nameOf : Nat → Int32} {v_sort : Nat → Int32} {v_value : Nat → Int32} {v_least : Nat → Int32} {v_most : Nat → Int32} {v_holder : Nat → Int32} {v_parts : Nat → Int32} {v_end : Nat → Int32} {v_firstPart : Nat → Int32} {v_partBegin : Nat → Int32} {v_partEnd : Nat → Int32} {v_waiting : Nat → Int32} {v_waitingHolder : Nat → Int32} {v_printed : Nat → Int32} {v_printedAlso : Nat → Int32} {v_many : Nat → Int32} {v_captures : Nat → Int32} {Q : Int32 → Int32 → Int32 → (Nat → Int32) → (Nat → Int32) → (Nat → Int32) → (Nat → Int32) → Prop} (a0 : 0 ≤ p1.toInt) (a1 : p1.toInt ≤ 5) (a2 : 0 ≤ p2.toInt) (a3 : 0 ≤ p3.toInt) (u0 : zSl v_sort v_value v_least v_most v_holder v_parts v_end v_firstPart v_partBegin v_partEnd (220 * p1.toInt) (420 * p1.toInt) (zg v_many p1.toInt) (zg v_captures p1.toInt)) (u1 : p2.toInt < zg v_many p1.toInt) (u2 : p3.toInt < zg v_many p1.toInt) (hq : ∀ (r : Int32) (ov_printedMany : Int32) (ov_opened : Int32) (ov_waiting : Nat → Int32) (ov_waitingHolder : Nat → Int32) (ov_printed : Nat → Int32) (ov_printedAlso : Nat → Int32), 0 ≤ ov_printedMany.toInt + 1 → 0 ≤ ov_printedMany.toInt → ov_printedMany.toInt ≤ 3332 → 0 ≤ r.toInt + 1 → 0 ≤ r.toInt → r.toInt ≤ 1 → r.toInt ≤ 2 → r.toInt ≤ ov_printedMany.toInt + 1 → r.toInt ≤ p1.toInt + 1 → r.toInt ≤ p2.toInt + 1 → r.toInt ≤ p3.toInt + 1 → Q r ov_printedMany ov_opened ov_waiting ov_waitingHolder ov_printed ov_printedAlso) : w_X12_isSamePrint p1 p2 p3 v_nameOf v_sort v_value v_least v_most v_holder v_parts v_end v_firstPart v_partBegin v_partEnd v_waiting v_waitingHolder v_printed v_printedAlso Q := by
  have q_t : (bz true).toInt = 1 := rfl
  have q_f : (bz false).toInt = 0 := rfl
  have q_0 : (0 : Int32).toInt = 0 := rfl
  have q_1 : (1 : Int32).toInt = 1 := rfl
  unfold w_X12_isSamePrint
  have f1 : 1 ≤ (zg v_many p1.toInt : Int) := (zS_n u0).1
  have f2 : (zg v_many p1.toInt : Int) ≤ 220 := (zS_n u0).2
  have f3 : 0 ≤ (zg v_captures p1.toInt : Int) := (zS_c u0).1
  have f4 : (zg v_captures p1.toInt : Int) ≤ 9 := (zS_c u0).2
  refine ok_X12_printFrom (v_many := v_many) (v_captures := v_captures) (by omega) (by omega) (by omega) (by exact u0) (by first | assumption | omega) (fun r3_0 r3_1 r3_2 r3_3 r3_4 f5 f6 f7 => ?_)
  have j_15 : ∀ n_15 : Nat, ∀ (l5_15 : Int32) (v_printedAlso_15 : Nat → Int32), 0 ≤ l5_15.toInt → l5_15.toInt ≤ r3_0.toInt → ((-1) * l5_15.toInt + 2147483648).toNat < n_15 → w_X12_isSamePrint_15 p1 p3 v_nameOf v_sort v_value v_least v_most v_holder v_parts v_end v_firstPart v_partBegin v_partEnd Q r3_0 r3_0 r3_1 r3_2 r3_3 r3_4 n_15 l5_15 v_printedAlso_15 := by
    intro n_15
    induction n_15 with
    | zero =>
      intro l5_15 v_printedAlso_15 f8 f9 hm_15
      exfalso; omega
    | succ n_15 ih_15 =>
      intro l5_15 v_printedAlso_15 f8 f9 hm_15
      unfold w_X12_isSamePrint_15
      unfold w_X12_isSamePrint_15B
      refine ⟨fun c19 => ?_, fun c19 => ?_⟩
      · have f10 : r3_0.toInt ≤ l5_15.toInt := i_le (a := r3_0.toInt) (b := l5_15.toInt) rfl rfl c19
        refine ok_X12_printFrom (v_many := v_many) (v_captures := v_captures) (by omega) (by omega) (by omega) (by exact u0) (by first | assumption | omega) (fun r45_0 r45_1 r45_2 r45_3 r45_4 f11 f12 f13 => ?_)
        have j_62 : ∀ (s0_62 : Int32), 0 ≤ s0_62.toInt → s0_62.toInt ≤ 1 → ((s0_62.toInt = 0) ∨ (s0_62.toInt = 1 ∧ r3_0.toInt = r45_0.toInt)) → w_X12_isSamePrint_62 Q s0_62 r3_0 r45_0 r45_1 r45_2 r45_3 r45_4 v_printedAlso_15 := by
          intro s0_62 f14 f15 f16
          unfold w_X12_isSamePrint_62
          have j_67 : ∀ n_67 : Nat, ∀ (l5_67 : Int32) (l6_67 : Int32), 0 ≤ l5_67.toInt → l5_67.toInt ≤ s0_62.toInt → 0 ≤ l6_67.toInt → l6_67.toInt ≤ r3_0.toInt → l6_67.toInt ≤ r45_0.toInt → ((-1) * l6_67.toInt + 2147483648).toNat < n_67 → w_X12_isSamePrint_67 Q r3_0 r45_0 r45_1 r45_2 r45_3 r45_4 v_printedAlso_15 n_67 l5_67 l6_67 := by
            intro n_67
            induction n_67 with
            | zero =>
              intro l5_67 l6_67 f17 f18 f19 f20 f21 hm_67
              exfalso; omega
            | succ n_67 ih_67 =>
              intro l5_67 l6_67 f17 f18 f19 f20 f21 hm_67
              unfold w_X12_isSamePrint_67
              unfold w_X12_isSamePrint_67B
              have j_109 : ((r3_0.toInt ≤ l6_67.toInt) ∨ (l6_67.toInt + 1 ≤ r3_0.toInt ∧ l5_67.toInt = 0)) → w_X12_isSamePrint_109 Q l5_67 r45_0 r45_1 r45_2 r45_3 r45_4 v_printedAlso_15 := by
                intro f22
                unfold w_X12_isSamePrint_109
                refine ⟨i_01 (by omega) (by omega), ?_⟩
                exact hq l5_67 r45_0 r45_1 r45_2 r45_3 r45_4 v_printedAlso_15 (by omega) (by omega) (by omega) (by omega) (by omega) (by omega) (by omega) (by omega) (by omega) (by omega) (by omega)
              refine ⟨fun c71 => ?_, fun c71 => ?_⟩
              · have f23 : r3_0.toInt ≤ l6_67.toInt := i_le (a := r3_0.toInt) (b := l6_67.toInt) rfl rfl c71
                exact j_109  (by omega)
              · have f24 : l6_67.toInt < r3_0.toInt := i_nle (a := r3_0.toInt) (b := l6_67.toInt) rfl rfl c71
                refine ⟨fun c76 => ?_, fun c76 => ?_⟩
                · have f25 : l5_67.toInt = 0 := i_eq (a := l5_67.toInt) (b := 0) rfl rfl c76
                  exact j_109  (by omega)
                · have f26 : l5_67.toInt ≠ 0 := i_ne (a := l5_67.toInt) (b := 0) rfl rfl c76
                  refine ⟨i_in (by omega) (by omega), ?_⟩
                  intro x85 ex85
                  refine ⟨i_in (by omega) (by omega), ?_⟩
                  intro x92 ex92
                  have j_101 : ∀ (s0_101 : Int32), 0 ≤ s0_101.toInt → s0_101.toInt ≤ 1 → ((s0_101.toInt = 0) ∨ (s0_101.toInt = 1)) → w_X12_isSamePrint_101 Q (w_X12_isSamePrint_67 Q r3_0 r45_0 r45_1 r45_2 r45_3 r45_4 v_printedAlso_15 n_67) s0_101 l6_67 := by
                    intro s0_101 f27 f28 f29
                    unfold w_X12_isSamePrint_101
                    intro x103 ex103
                    have f30 : x103.toInt = l6_67.toInt + 1 := i_add (a := l6_67.toInt) (b := 1) ex103 rfl rfl (by omega) (by omega)
                    exact ih_67 s0_101 x103  (by omega) (by omega) (by omega) (by omega) (by omega) (by have h8_0 := i_rng l6_67; have h8_1 := i_rng x103; omega)
                  refine ⟨fun c93 => ?_, fun c93 => ?_⟩
                  · have f31 : x85.toInt ≠ x92.toInt := i_ne (a := x85.toInt) (b := x92.toInt) rfl rfl c93
                    exact j_101 0 (by omega) (by omega) (by omega)
                  · have f32 : x85.toInt = x92.toInt := i_eq (a := x85.toInt) (b := x92.toInt) rfl rfl c93
                    exact j_101 1 (by omega) (by omega) (by omega)
          exact ⟨(2147483648 : Int).toNat + 1, j_67   ((2147483648 : Int).toNat + 1) s0_62 0  (by omega) (by omega) (by omega) (by omega) (by omega) (by omega)⟩
        refine ⟨fun c54 => ?_, fun c54 => ?_⟩
        · have f33 : r3_0.toInt ≠ r45_0.toInt := i_ne (a := r3_0.toInt) (b := r45_0.toInt) rfl rfl c54
          exact j_62 0 (by omega) (by omega) (by omega)
        · have f34 : r3_0.toInt = r45_0.toInt := i_eq (a := r3_0.toInt) (b := r45_0.toInt) rfl rfl c54
          exact j_62 1 (by omega) (by omega) (by omega)
      · have f35 : l5_15.toInt < r3_0.toInt := i_nle (a := r3_0.toInt) (b := l5_15.toInt) rfl rfl c19
        refine ⟨i_in (by omega) (by omega), ?_⟩
        intro x34 ex34
        refine ⟨i_in (by omega) (by omega), ?_⟩
        intro g35 eg35
        intro x36 ex36
        have f36 : x36.toInt = l5_15.toInt + 1 := i_add (a := l5_15.toInt) (b := 1) ex36 rfl rfl (by omega) (by omega)
        exact ih_15 x36 g35  (by omega) (by omega) (by have h8_0 := i_rng l5_15; have h8_1 := i_rng x36; omega)
  exact ⟨(2147483648 : Int).toNat + 1, j_15   ((2147483648 : Int).toNat + 1) 0 v_printedAlso  (by omega) (by omega) (by omega)⟩
set_option maxHeartbeats 4000000 in
theorem ok_X12_dead {p1 : Int32} {p2 : Int32} {v_finding : Int32} {v_printedMany : Int32} {v_opened : Int32} {v_isThere : Nat → Bool} {v_many : Nat → Int32} {v_nameOf : Nat → Int32} {v_sort : Nat → Int32} {v_value : Nat → Int32} {v_least : Nat → Int32} {v_most : Nat → Int32} {v_holder : Nat → Int32} {v_parts : Nat → Int32} {v_end : Nat → Int32} {v_firstPart : Nat → Int32} {v_partBegin : Nat → Int32} {v_partEnd : Nat → Int32} {v_waiting : Nat → Int32} {v_waitingHolder : Nat → Int32} {v_printed : Nat → Int32} {v_printedAlso : Nat → Int32} {v_captures : Nat → Int32} {v_size : Nat → Int32} {v_positions : Nat → Int32} {Q : Int32 → Int32 → Int32 → Int32 → Int32 → (Nat → Int32) → (Nat → Int32) → (Nat → Int32) → (Nat → Int32) → Prop} (u0 : zAll v_isThere v_many v_captures v_sort v_value v_least v_most v_holder v_parts v_end v_firstPart v_partBegin v_partEnd v_size v_positions) (hq : ∀ (r : Int32) (ov_thrown : Int32) (ov_finding : Int32) (ov_printedMany : Int32) (ov_opened : Int32) (ov_waiting : Nat → Int32) (ov_waitingHolder : Nat → Int32) (ov_printed : Nat → Int32) (ov_printedAlso : Nat → Int32), ov_thrown.toInt = 0 → 0 ≤ r.toInt + 4 → r.toInt ≤ 219 → Q r ov_thrown ov_finding ov_printedMany ov_opened ov_waiting ov_waitingHolder ov_printed ov_printedAlso) : w_X12_dead p1 p2 v_finding v_printedMany v_opened v_isThere v_many v_nameOf v_sort v_value v_least v_most v_holder v_parts v_end v_firstPart v_partBegin v_partEnd v_waiting v_waitingHolder v_printed v_printedAlso Q := by
  have q_t : (bz true).toInt = 1 := rfl
  have q_f : (bz false).toInt = 0 := rfl
  have q_m4 : ((-4) : Int32).toInt = (-4) := rfl
  have q_m2 : ((-2) : Int32).toInt = (-2) := rfl
  have q_m1 : ((-1) : Int32).toInt = (-1) := rfl
  have q_0 : (0 : Int32).toInt = 0 := rfl
  have q_1 : (1 : Int32).toInt = 1 := rfl
  unfold w_X12_dead
  refine ok_X12_wrongSlot  (fun r7 r7_0 f1 f2 f3 u7_0 => ?_)
  refine ⟨fun c10 => ?_, fun c10 => ?_⟩
  · have f4 : r7.toInt = 0 := i_eq (a := r7.toInt) (b := 0) rfl rfl c10
    have hSM := zAll_s u0 (u7_0 (by omega)) (by omega) (by omega)
    have hS := hSM.1
    have hM := hSM.2
    have f5 : 1 ≤ (zg v_many p1.toInt : Int) := (zS_n hS).1
    have f6 : (zg v_many p1.toInt : Int) ≤ 220 := (zS_n hS).2
    have f7 : 0 ≤ (zg v_captures p1.toInt : Int) := (zS_c hS).1
    have f8 : (zg v_captures p1.toInt : Int) ≤ 9 := (zS_c hS).2
    refine ⟨fun c17 => ?_, fun c17 => ?_⟩
    · have f9 : 0 ≤ p2.toInt := i_le (a := 0) (b := p2.toInt) rfl rfl c17
      intro x27 ex27
      have f10 : x27.toInt = 220 * p1.toInt := i_mul (a := 220) (b := p1.toInt) ex27 rfl rfl (by omega) (by omega)
      have j_35 : ∀ n_35 : Nat, ∀ (l4_35 : Int32) (l5_35 : Int32) (v_printedMany_35 : Int32) (v_opened_35 : Int32) (v_waiting_35 : Nat → Int32) (v_waitingHolder_35 : Nat → Int32) (v_printed_35 : Nat → Int32) (v_printedAlso_35 : Nat → Int32), 1 ≤ l5_35.toInt → ((-1) * l5_35.toInt + 2147483648).toNat < n_35 → w_X12_dead_35 p1 v_many v_nameOf v_sort v_value v_least v_most v_holder v_parts v_end v_firstPart v_partBegin v_partEnd Q x27 0 r7_0 n_35 l4_35 l5_35 v_printedMany_35 v_opened_35 v_waiting_35 v_waitingHolder_35 v_printed_35 v_printedAlso_35 := by
        intro n_35
        induction n_35 with
        | zero =>
          intro l4_35 l5_35 v_printedMany_35 v_opened_35 v_waiting_35 v_waitingHolder_35 v_printed_35 v_printedAlso_35 f11 hm_35
          exfalso; omega
        | succ n_35 ih_35 =>
          intro l4_35 l5_35 v_printedMany_35 v_opened_35 v_waiting_35 v_waitingHolder_35 v_printed_35 v_printedAlso_35 f11 hm_35
          unfold w_X12_dead_35
          unfold w_X12_dead_35B
          refine ⟨i_in (by omega) (by omega), ?_⟩
          intro x42 ex42
          have f12 : x42.toInt = (zg v_many p1.toInt : Int) := zg_at ex42
          refine ⟨fun c43 => ?_, fun c43 => ?_⟩
          · have f13 : x42.toInt ≤ l5_35.toInt := i_le (a := x42.toInt) (b := l5_35.toInt) rfl rfl c43
            exact hq (-1) 0 r7_0 v_printedMany_35 v_opened_35 v_waiting_35 v_waitingHolder_35 v_printed_35 v_printedAlso_35 (by omega) (by omega) (by omega)
          · have f14 : l5_35.toInt < x42.toInt := i_nle (a := x42.toInt) (b := l5_35.toInt) rfl rfl c43
            intro x53 ex53
            have f15 : x53.toInt = x27.toInt + l5_35.toInt := i_add (a := x27.toInt) (b := l5_35.toInt) ex53 rfl rfl (by omega) (by omega)
            refine ⟨i_in (by omega) (by omega), ?_⟩
            intro x54 ex54
            have f16 : 0 ≤ x54.toInt + 1 ∧ 220 * p1.toInt + x54.toInt + 1 ≤ x53.toInt ∧ ((x53.toInt ≤ 220 * p1.toInt) ∨ (0 ≤ x54.toInt)) := by have h9 := zS_holder (k := (-220) * p1.toInt + x53.toInt) hS ex54 (by omega) (by omega) (by omega); omega
            intro x67 ex67
            have f17 : x67.toInt = x27.toInt + x54.toInt := i_add (a := x27.toInt) (b := x54.toInt) ex67 rfl rfl (by omega) (by omega)
            refine ⟨i_in (by omega) (by omega), ?_⟩
            intro x68 ex68
            have f18 : 0 ≤ x68.toInt ∧ x68.toInt ≤ 11 := by have h9 := zS_sort (k := (-220) * p1.toInt + x67.toInt) hS ex68 (by omega) (by omega) (by omega); omega
            have j_125 : ∀ (l7_125 : Int32) (v_printedMany_125 : Int32) (v_opened_125 : Int32) (v_waiting_125 : Nat → Int32) (v_waitingHolder_125 : Nat → Int32) (v_printed_125 : Nat → Int32) (v_printedAlso_125 : Nat → Int32), 0 ≤ l7_125.toInt → l7_125.toInt ≤ 1 → w_X12_dead_125 0 r7_0 Q (w_X12_dead_35 p1 v_many v_nameOf v_sort v_value v_least v_most v_holder v_parts v_end v_firstPart v_partBegin v_partEnd Q x27 0 r7_0 n_35) l4_35 l5_35 l7_125 v_printedMany_125 v_opened_125 v_waiting_125 v_waitingHolder_125 v_printed_125 v_printedAlso_125 := by
              intro l7_125 v_printedMany_125 v_opened_125 v_waiting_125 v_waitingHolder_125 v_printed_125 v_printedAlso_125 f19 f20
              unfold w_X12_dead_125
              have j_138 : w_X12_dead_138 Q (w_X12_dead_35 p1 v_many v_nameOf v_sort v_value v_least v_most v_holder v_parts v_end v_firstPart v_partBegin v_partEnd Q x27 0 r7_0 n_35) l4_35 l5_35 l7_125 v_printedMany_125 v_opened_125 v_waiting_125 v_waitingHolder_125 v_printed_125 v_printedAlso_125 := by
                unfold w_X12_dead_138
                have j_150 : ∀ (s0_150 : Int32), ((s0_150.toInt = 0 ∧ l7_125.toInt = 0) ∨ (s0_150.toInt = 1)) → w_X12_dead_150 Q (w_X12_dead_35 p1 v_many v_nameOf v_sort v_value v_least v_most v_holder v_parts v_end v_firstPart v_partBegin v_partEnd Q x27 0 r7_0 n_35) s0_150 l4_35 l5_35 v_printedMany_125 v_opened_125 v_waiting_125 v_waitingHolder_125 v_printed_125 v_printedAlso_125 := by
                  intro s0_150 f21
                  unfold w_X12_dead_150
                  intro x150 ex150
                  intro x153 ex153
                  have f22 : x153.toInt = l5_35.toInt + 1 := i_add (a := l5_35.toInt) (b := 1) ex153 rfl rfl (by omega) (by omega)
                  exact ih_35 x150 x153 v_printedMany_125 v_opened_125 v_waiting_125 v_waitingHolder_125 v_printed_125 v_printedAlso_125  (by omega) (by have h8_0 := i_rng l5_35; have h8_1 := i_rng x153; omega)
                refine ⟨fun c142 => ?_, fun c142 => ?_⟩
                · have f23 : l7_125.toInt = 0 := i_eq (a := l7_125.toInt) (b := 0) rfl rfl c142
                  exact j_150 0 (by omega)
                · have f24 : l7_125.toInt ≠ 0 := i_ne (a := l7_125.toInt) (b := 0) rfl rfl c142
                  exact j_150 1 (by omega)
              refine ⟨fun c127 => ?_, fun c127 => ?_⟩
              · have f25 : l7_125.toInt = 0 := i_eq (a := l7_125.toInt) (b := 0) rfl rfl c127
                exact j_138  
              · have f26 : l7_125.toInt ≠ 0 := i_ne (a := l7_125.toInt) (b := 0) rfl rfl c127
                refine ⟨fun c132 => ?_, fun c132 => ?_⟩
                · have f27 : l4_35.toInt ≠ 0 := i_ne (a := l4_35.toInt) (b := 0) rfl rfl c132
                  exact j_138  
                · have f28 : l4_35.toInt = 0 := i_eq (a := l4_35.toInt) (b := 0) rfl rfl c132
                  exact hq l5_35 0 r7_0 v_printedMany_125 v_opened_125 v_waiting_125 v_waitingHolder_125 v_printed_125 v_printedAlso_125 (by omega) (by omega) (by omega)
            refine ⟨fun c71 => ?_, fun c71 => ?_⟩
            · have f29 : x68.toInt ≠ 6 := i_ne (a := x68.toInt) (b := 6) rfl rfl c71
              exact j_125 0 v_printedMany_35 v_opened_35 v_waiting_35 v_waitingHolder_35 v_printed_35 v_printedAlso_35 (by omega) (by omega)
            · have f30 : x68.toInt = 6 := i_eq (a := x68.toInt) (b := 6) rfl rfl c71
              intro x77 ex77
              have f31 : x77.toInt = x54.toInt + 1 := i_add (a := x54.toInt) (b := 1) ex77 rfl rfl (by omega) (by omega)
              have j_80 : ∀ n_80 : Nat, ∀ (l7_80 : Int32) (l8_80 : Int32) (v_printedMany_80 : Int32) (v_opened_80 : Int32) (v_waiting_80 : Nat → Int32) (v_waitingHolder_80 : Nat → Int32) (v_printed_80 : Nat → Int32) (v_printedAlso_80 : Nat → Int32), 0 ≤ l7_80.toInt → l7_80.toInt ≤ 1 → l7_80.toInt + 1 ≤ l5_35.toInt → x77.toInt ≤ l8_80.toInt → ((-1) * l8_80.toInt + 2147483648).toNat < n_80 → w_X12_dead_80 p1 v_nameOf v_sort v_value v_least v_most v_holder v_parts v_end v_firstPart v_partBegin v_partEnd x27 0 r7_0 Q (w_X12_dead_35 p1 v_many v_nameOf v_sort v_value v_least v_most v_holder v_parts v_end v_firstPart v_partBegin v_partEnd Q x27 0 r7_0 n_35) l4_35 l5_35 n_80 l7_80 l8_80 v_printedMany_80 v_opened_80 v_waiting_80 v_waitingHolder_80 v_printed_80 v_printedAlso_80 := by
                intro n_80
                induction n_80 with
                | zero =>
                  intro l7_80 l8_80 v_printedMany_80 v_opened_80 v_waiting_80 v_waitingHolder_80 v_printed_80 v_printedAlso_80 f32 f33 f34 f35 hm_80
                  exfalso; omega
                | succ n_80 ih_80 =>
                  intro l7_80 l8_80 v_printedMany_80 v_opened_80 v_waiting_80 v_waitingHolder_80 v_printed_80 v_printedAlso_80 f32 f33 f34 f35 hm_80
                  unfold w_X12_dead_80
                  unfold w_X12_dead_80B
                  refine ⟨fun c84 => ?_, fun c84 => ?_⟩
                  · have f36 : l5_35.toInt ≤ l8_80.toInt := i_le (a := l5_35.toInt) (b := l8_80.toInt) rfl rfl c84
                    exact j_125 l7_80 v_printedMany_80 v_opened_80 v_waiting_80 v_waitingHolder_80 v_printed_80 v_printedAlso_80 (by omega) (by omega)
                  · have f37 : l8_80.toInt < l5_35.toInt := i_nle (a := l5_35.toInt) (b := l8_80.toInt) rfl rfl c84
                    have j_109 : ∀ (s0_109 : Int32) (v_printedMany_109 : Int32) (v_opened_109 : Int32) (v_waiting_109 : Nat → Int32) (v_waitingHolder_109 : Nat → Int32) (v_printed_109 : Nat → Int32) (v_printedAlso_109 : Nat → Int32), 0 ≤ s0_109.toInt → s0_109.toInt ≤ 1 → w_X12_dead_109 v_end x27 Q (w_X12_dead_35 p1 v_many v_nameOf v_sort v_value v_least v_most v_holder v_parts v_end v_firstPart v_partBegin v_partEnd Q x27 0 r7_0 n_35) (w_X12_dead_80 p1 v_nameOf v_sort v_value v_least v_most v_holder v_parts v_end v_firstPart v_partBegin v_partEnd x27 0 r7_0 Q (w_X12_dead_35 p1 v_many v_nameOf v_sort v_value v_least v_most v_holder v_parts v_end v_firstPart v_partBegin v_partEnd Q x27 0 r7_0 n_35) l4_35 l5_35 n_80) s0_109 l8_80 v_printedMany_109 v_opened_109 v_waiting_109 v_waitingHolder_109 v_printed_109 v_printedAlso_109 := by
                      intro s0_109 v_printedMany_109 v_opened_109 v_waiting_109 v_waitingHolder_109 v_printed_109 v_printedAlso_109 f38 f39
                      unfold w_X12_dead_109
                      intro x118 ex118
                      have f40 : x118.toInt = x27.toInt + l8_80.toInt := i_add (a := x27.toInt) (b := l8_80.toInt) ex118 rfl rfl (by omega) (by omega)
                      refine ⟨i_in (by omega) (by omega), ?_⟩
                      intro x119 ex119
                      have f41 : x118.toInt + 1 ≤ 220 * p1.toInt + x119.toInt ∧ x119.toInt ≤ (zg v_many p1.toInt : Int) := by have h9 := zS_end (k := (-220) * p1.toInt + x118.toInt) hS ex119 (by omega) (by omega) (by omega); omega
                      exact ih_80 s0_109 x119 v_printedMany_109 v_opened_109 v_waiting_109 v_waitingHolder_109 v_printed_109 v_printedAlso_109  (by omega) (by omega) (by omega) (by omega) (by have h8_0 := i_rng l8_80; have h8_1 := i_rng x119; omega)
                    have j_104 : ∀ (v_printedMany_104 : Int32) (v_opened_104 : Int32) (v_waiting_104 : Nat → Int32) (v_waitingHolder_104 : Nat → Int32) (v_printed_104 : Nat → Int32) (v_printedAlso_104 : Nat → Int32), w_X12_dead_104 v_end x27 Q (w_X12_dead_35 p1 v_many v_nameOf v_sort v_value v_least v_most v_holder v_parts v_end v_firstPart v_partBegin v_partEnd Q x27 0 r7_0 n_35) (w_X12_dead_80 p1 v_nameOf v_sort v_value v_least v_most v_holder v_parts v_end v_firstPart v_partBegin v_partEnd x27 0 r7_0 Q (w_X12_dead_35 p1 v_many v_nameOf v_sort v_value v_least v_most v_holder v_parts v_end v_firstPart v_partBegin v_partEnd Q x27 0 r7_0 n_35) l4_35 l5_35 n_80) l8_80 v_printedMany_104 v_opened_104 v_waiting_104 v_waitingHolder_104 v_printed_104 v_printedAlso_104 := by
                      intro v_printedMany_104 v_opened_104 v_waiting_104 v_waitingHolder_104 v_printed_104 v_printedAlso_104
                      unfold w_X12_dead_104
                      exact j_109 1 v_printedMany_104 v_opened_104 v_waiting_104 v_waitingHolder_104 v_printed_104 v_printedAlso_104 (by omega) (by omega)
                    refine ⟨fun c89 => ?_, fun c89 => ?_⟩
                    · have f42 : l7_80.toInt ≠ 0 := i_ne (a := l7_80.toInt) (b := 0) rfl rfl c89
                      exact j_104 v_printedMany_80 v_opened_80 v_waiting_80 v_waitingHolder_80 v_printed_80 v_printedAlso_80 
                    · have f43 : l7_80.toInt = 0 := i_eq (a := l7_80.toInt) (b := 0) rfl rfl c89
                      refine ok_X12_isSamePrint (v_many := v_many) (v_captures := v_captures) (by omega) (by omega) (by omega) (by omega) (by exact hS) (by first | assumption | omega) (by first | assumption | omega) (fun r98 r98_0 r98_1 r98_2 r98_3 r98_4 r98_5 f44 f45 f46 f47 f48 f49 f50 f51 f52 f53 f54 => ?_)
                      refine ⟨fun c101 => ?_, fun c101 => ?_⟩
                      · have f55 : r98.toInt = 0 := i_eq (a := r98.toInt) (b := 0) rfl rfl c101
                        exact j_109 0 r98_0 r98_1 r98_2 r98_3 r98_4 r98_5 (by omega) (by omega)
                      · have f56 : r98.toInt ≠ 0 := i_ne (a := r98.toInt) (b := 0) rfl rfl c101
                        exact j_104 r98_0 r98_1 r98_2 r98_3 r98_4 r98_5 
              exact ⟨((-1) * x77.toInt + 2147483648).toNat + 1, j_80   (((-1) * x77.toInt + 2147483648).toNat + 1) 0 x77 v_printedMany_35 v_opened_35 v_waiting_35 v_waitingHolder_35 v_printed_35 v_printedAlso_35  (by omega) (by omega) (by omega) (by omega) (by omega)⟩
      exact ⟨(2147483647 : Int).toNat + 1, j_35   ((2147483647 : Int).toNat + 1) p2 1 v_printedMany v_opened v_waiting v_waitingHolder v_printed v_printedAlso  (by omega) (by omega)⟩
    · have f57 : p2.toInt < 0 := i_nle (a := 0) (b := p2.toInt) rfl rfl c17
      exact hq (-4) 0 r7_0 v_printedMany v_opened v_waiting v_waitingHolder v_printed v_printedAlso (by omega) (by omega) (by omega)
  · have f58 : r7.toInt ≠ 0 := i_ne (a := r7.toInt) (b := 0) rfl rfl c10
    exact hq (-2) 0 r7_0 v_printedMany v_opened v_waiting v_waitingHolder v_printed v_printedAlso (by omega) (by omega) (by omega)
set_option maxHeartbeats 4000000 in
theorem ok_X12_wrongBoth {p1 : Int32} {p2 : Int32} {v_finding : Int32} {v_isThere : Nat → Bool} {v_isSubject : Nat → Bool} {Q : Int32 → Int32 → Prop} (hq : ∀ (r : Int32) (ov_finding : Int32), ((r.toInt = 0) ∨ (r.toInt + 2 = 0) ∨ (r.toInt + 3 = 0)) → ((r.toInt ≠ 0) ∨ (0 ≤ p1.toInt)) → ((r.toInt ≠ 0) ∨ (p1.toInt ≤ 5)) → ((r.toInt ≠ 0) ∨ (0 ≤ p2.toInt)) → ((r.toInt ≠ 0) ∨ (p2.toInt ≤ 3)) → (r.toInt = 0 → v_isThere p1.toNatClampNeg = true) → Q r ov_finding) : w_X12_wrongBoth p1 p2 v_finding v_isThere v_isSubject Q := by
  have q_t : (bz true).toInt = 1 := rfl
  have q_f : (bz false).toInt = 0 := rfl
  unfold w_X12_wrongBoth
  refine ok_X12_wrongSlot  (fun r2 r2_0 f1 f2 f3 u2_0 => ?_)
  have j_19 : ∀ (s0_19 : Int32) (v_finding_19 : Int32), ((s0_19.toInt = 0) ∨ (s0_19.toInt + 2 = 0) ∨ (s0_19.toInt + 3 = 0)) → ((s0_19.toInt ≠ 0) ∨ (0 ≤ p1.toInt)) → ((s0_19.toInt ≠ 0) ∨ (p1.toInt ≤ 5)) → ((s0_19.toInt ≠ 0) ∨ (0 ≤ p2.toInt)) → ((s0_19.toInt ≠ 0) ∨ (p2.toInt ≤ 3)) → ((r2.toInt = 0) ∨ (s0_19.toInt = r2.toInt ∧ v_finding_19.toInt = r2_0.toInt)) → (s0_19.toInt = 0 → v_isThere p1.toNatClampNeg = true) → w_X12_wrongBoth_19 Q s0_19 v_finding_19 := by
    intro s0_19 v_finding_19 f4 f5 f6 f7 f8 f9 u19_0
    unfold w_X12_wrongBoth_19
    exact hq s0_19 v_finding_19 (by omega) (by omega) (by omega) (by omega) (by omega) (by assumption)
  refine ⟨fun c7 => ?_, fun c7 => ?_⟩
  · have f10 : r2.toInt = 0 := i_eq (a := r2.toInt) (b := 0) rfl rfl c7
    refine ok_X12_wrongSubject  (fun r16 r16_0 f11 f12 f13 u16_0 u16_1 u16_2 => ?_)
    exact j_19 r16 r16_0 (by omega) (by omega) (by omega) (by omega) (by omega) (by omega) (by first | exact fun z => absurd z (by omega) | exact fun _ => u2_0 (by omega))
  · have f14 : r2.toInt ≠ 0 := i_ne (a := r2.toInt) (b := 0) rfl rfl c7
    exact j_19 r2 r2_0 (by omega) (by omega) (by omega) (by omega) (by omega) (by omega) (by first | exact fun z => absurd z (by omega) | exact fun _ => u2_0 (by omega))
set_option maxHeartbeats 4000000 in
theorem ok_X12_makeSign {p1 : Int32} {v_madeMany : Int32} {v_madeSigns : Nat → Int32} {Q : Int32 → (Nat → Int32) → Prop} (a0 : 0 ≤ v_madeMany.toInt) (a1 : v_madeMany.toInt ≤ 2000000000) (hq : ∀ (ov_madeMany : Int32) (ov_madeSigns : Nat → Int32), ov_madeMany.toInt = v_madeMany.toInt + 1 → Q ov_madeMany ov_madeSigns) : w_X12_makeSign p1 v_madeMany v_madeSigns Q := by
  have q_t : (bz true).toInt = 1 := rfl
  have q_f : (bz false).toInt = 0 := rfl
  unfold w_X12_makeSign
  have j_20 : ∀ (v_madeSigns_20 : Nat → Int32), ((401 ≤ v_madeMany.toInt) ∨ (v_madeMany.toInt ≤ 400)) → w_X12_makeSign_20 Q v_madeMany v_madeSigns_20 := by
    intro v_madeSigns_20 f1
    unfold w_X12_makeSign_20
    intro x26 ex26
    have f2 : x26.toInt = v_madeMany.toInt + 1 := i_add (a := v_madeMany.toInt) (b := 1) ex26 rfl rfl (by omega) (by omega)
    exact hq x26 v_madeSigns_20 (by omega)
  refine ⟨fun c7 => ?_, fun c7 => ?_⟩
  · have f3 : 400 < v_madeMany.toInt := i_lt (a := 400) (b := v_madeMany.toInt) rfl rfl c7
    exact j_20 v_madeSigns (by omega)
  · have f4 : v_madeMany.toInt ≤ 400 := i_nlt (a := 400) (b := v_madeMany.toInt) rfl rfl c7
    refine ⟨i_in (by omega) (by omega), ?_⟩
    intro g19 eg19
    exact j_20 g19 (by omega)
