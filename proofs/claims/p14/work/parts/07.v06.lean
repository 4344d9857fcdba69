set_option maxHeartbeats 4000000 in
theorem ok_X12_wrongSlot {p1 : Int32} {v_finding : Int32} {v_isThere : Nat → Bool} {Q : Int32 → Int32 → Prop} (hq : ∀ (r : Int32) (ov_finding : Int32), ((r.toInt = 0 ∧ ov_finding.toInt = v_finding.toInt) ∨ (r.toInt + 2 = 0 ∧ ov_finding.toInt = 2) ∨ (r.toInt + 2 = 0 ∧ ov_finding.toInt = v_finding.toInt)) → ((r.toInt ≠ 0) ∨ (0 ≤ p1.toInt)) → ((r.toInt ≠ 0) ∨ (p1.toInt ≤ 5)) → (r.toInt = 0 → v_isThere p1.toNatClampNeg = true) → Q r ov_finding) : w_X12_wrongSlot p1 v_finding v_isThere Q := by
  have q_t : (bz true).toInt = 1 := rfl
  have q_f : (bz false).toInt = 0 := rfl
  have q_m2 : ((-2) : Int32).toInt = (-2) := rfl
  have q_0 : (0 : Int32).toInt = 0 := rfl
  have q_2 : (2 : Int32).toInt = 2 := rfl
  have q_5 : (5 : Int32).toInt = 5 := rfl
  unfold w_X12_wrongSlot
  refine ok_X12_in  (fun r3 f1 f2 f3 f4 f5 f6 => ?_)
  refine ⟨fun c6 => ?_, fun c6 => ?_⟩
  · have f7 : r3.toInt ≠ 0 := i_ne (a := r3.toInt) (b := 0) rfl rfl c6
    refine ⟨i_in (by omega) (by omega), ?_⟩
    intro x17 ex17
    have f8 : (0 ≤ x17.toInt ∧ x17.toInt ≤ 1) := i_bz ex17
    refine ⟨fun c18 => ?_, fun c18 => ?_⟩
    · have f9 : x17.toInt ≠ 0 := i_ne (a := x17.toInt) (b := 0) rfl rfl c18
      exact hq 0 v_finding (by omega) (by omega) (by omega) (by exact fun _ => zbz_t ex17 (by omega))
    · have f10 : x17.toInt = 0 := i_eq (a := x17.toInt) (b := 0) rfl rfl c18
      exact hq (-2) 2 (by omega) (by omega) (by omega) (by exact fun z => absurd z (by decide))
  · have f11 : r3.toInt = 0 := i_eq (a := r3.toInt) (b := 0) rfl rfl c6
    exact hq (-2) v_finding (by omega) (by omega) (by omega) (by exact fun z => absurd z (by decide))
set_option maxHeartbeats 4000000 in
theorem ok_X12_otherSort  {Q : Int32 → Int32 → Prop} (hq : ∀ (r : Int32) (ov_finding : Int32), r.toInt + 6 = 0 → ov_finding.toInt = 3 → Q r ov_finding) : w_X12_otherSort  Q := by
  have q_t : (bz true).toInt = 1 := rfl
  have q_f : (bz false).toInt = 0 := rfl
  have q_m6 : ((-6) : Int32).toInt = (-6) := rfl
  have q_3 : (3 : Int32).toInt = 3 := rfl
  unfold w_X12_otherSort
  exact hq (-6) 3 (by omega) (by omega)
set_option maxHeartbeats 4000000 in
theorem ok_X12_node {p1 : Int32} {p2 : Int32} {p3 : Int32} {v_finding : Int32} {v_isThere : Nat → Bool} {v_many : Nat → Int32} {v_sort : Nat → Int32} {v_value : Nat → Int32} {v_least : Nat → Int32} {v_most : Nat → Int32} {v_holder : Nat → Int32} {v_parts : Nat → Int32} {v_size : Nat → Int32} {v_positions : Nat → Int32} {v_mayEmpty : Nat → Bool} {v_inCase : Nat → Bool} {v_captures : Nat → Int32} {v_end : Nat → Int32} {v_firstPart : Nat → Int32} {v_partBegin : Nat → Int32} {v_partEnd : Nat → Int32} {Q : Int32 → Int32 → Int32 → Prop} (u0 : zAll v_isThere v_many v_captures v_sort v_value v_least v_most v_holder v_parts v_end v_firstPart v_partBegin v_partEnd v_size v_positions) (hq : ∀ (r : Int32) (ov_thrown : Int32) (ov_finding : Int32), ov_thrown.toInt = 0 → Q r ov_thrown ov_finding) : w_X12_node p1 p2 p3 v_finding v_isThere v_many v_sort v_value v_least v_most v_holder v_parts v_size v_positions v_mayEmpty v_inCase Q := by
  have q_t : (bz true).toInt = 1 := rfl
  have q_f : (bz false).toInt = 0 := rfl
  have q_m4 : ((-4) : Int32).toInt = (-4) := rfl
  have q_m2 : ((-2) : Int32).toInt = (-2) := rfl
  have q_0 : (0 : Int32).toInt = 0 := rfl
  have q_1 : (1 : Int32).toInt = 1 := rfl
  have q_6 : (6 : Int32).toInt = 6 := rfl
  have q_10 : (10 : Int32).toInt = 10 := rfl
  have q_18 : (18 : Int32).toInt = 18 := rfl
  unfold w_X12_node
  refine ok_X12_wrongSlot  (fun r7 r7_0 f1 f2 f3 u7_0 => ?_)
  refine ⟨fun c10 => ?_, fun c10 => ?_⟩
  · have f4 : r7.toInt = 0 := i_eq (a := r7.toInt) (b := 0) rfl rfl c10
    have hSM := zAll_s u0 (u7_0 (by omega)) (by omega) (by omega)
    have hS := hSM.1
    have hM := hSM.2
    have f5 : 1 ≤ (zg v_many p1.toInt : Int) := (zS_n hS).1
    have f6 : (zg v_many p1.toInt : Int) ≤ 220 := (zS_n hS).2
    have f7 : 0 ≤ (zg v_captures p1.toInt : Int) := (zS_c hS).1
    have f8 : (zg v_captures p1.toInt : Int) ≤ 9 := (zS_c hS).2
    refine ⟨i_in (by omega) (by omega), ?_⟩
    intro x23 ex23
    have f9 : x23.toInt = (zg v_many p1.toInt : Int) := zg_at ex23
    intro x25 ex25
    have f10 : x25.toInt = x23.toInt - 1 := i_sub (a := x23.toInt) (b := 1) ex25 rfl rfl (by omega) (by omega)
    refine ok_X12_in  (fun r26 f11 f12 f13 f14 f15 f16 => ?_)
    have j_53 : w_X12_node_53 Q 0 r7_0 := by
      unfold w_X12_node_53
      exact hq (-4) 0 r7_0 (by omega)
    refine ⟨fun c29 => ?_, fun c29 => ?_⟩
    · have f17 : r26.toInt = 0 := i_eq (a := r26.toInt) (b := 0) rfl rfl c29
      exact j_53  
    · have f18 : r26.toInt ≠ 0 := i_ne (a := r26.toInt) (b := 0) rfl rfl c29
      refine ok_X12_in  (fun r36 f19 f20 f21 f22 f23 f24 => ?_)
      have j_56 : w_X12_node_56 p1 p2 p3 v_sort v_value v_least v_most v_holder v_parts v_size v_positions v_mayEmpty v_inCase Q 0 r7_0 := by
        unfold w_X12_node_56
        intro x60 ex60
        have f25 : x60.toInt = 220 * p1.toInt := i_mul (a := 220) (b := p1.toInt) ex60 rfl rfl (by omega) (by omega)
        intro x62 ex62
        have f26 : x62.toInt = x60.toInt + p2.toInt := i_add (a := x60.toInt) (b := p2.toInt) ex62 rfl rfl (by omega) (by omega)
        refine ⟨i_in (by omega) (by omega), ?_⟩
        intro x71 ex71
        have f27 : 0 ≤ x71.toInt ∧ x71.toInt ≤ 11 := by have h9 := zS_sort (k := (-220) * p1.toInt + x62.toInt) hS ex71 (by omega) (by omega) (by omega); omega
        have j_398 : p3.toInt ≠ 0 → p3.toInt ≠ 1 → p3.toInt ≠ 2 → p3.toInt ≠ 3 → p3.toInt ≠ 4 → p3.toInt ≠ 5 → p3.toInt ≠ 6 → p3.toInt ≠ 10 → p3.toInt ≠ 11 → p3.toInt ≠ 12 → p3.toInt ≠ 13 → p3.toInt ≠ 14 → p3.toInt ≠ 15 → p3.toInt ≠ 16 → p3.toInt ≠ 17 → w_X12_node_398 v_value Q x62 x71 0 r7_0 := by
          intro f28 f29 f30 f31 f32 f33 f34 f35 f36 f37 f38 f39 f40 f41 f42
          unfold w_X12_node_398
          have j_419 : ∀ (s0_419 : Int32) (v_finding_419 : Int32), ((s0_419.toInt + 6 = 0 ∧ v_finding_419.toInt = 3) ∨ (v_finding_419.toInt = r7_0.toInt ∧ x71.toInt = 7 ∧ 0 ≤ s0_419.toInt ∧ s0_419.toInt ≤ 65535)) → w_X12_node_419 Q s0_419 0 v_finding_419 := by
            intro s0_419 v_finding_419 f43
            unfold w_X12_node_419
            exact hq s0_419 0 v_finding_419 (by omega)
          refine ⟨fun c402 => ?_, fun c402 => ?_⟩
          · have f44 : x71.toInt ≠ 7 := i_ne (a := x71.toInt) (b := 7) rfl rfl c402
            refine ok_X12_otherSort  (fun r416 r416_0 f45 f46 => ?_)
            exact j_419 r416 r416_0 (by omega)
          · have f47 : x71.toInt = 7 := i_eq (a := x71.toInt) (b := 7) rfl rfl c402
            refine ⟨i_in (by omega) (by omega), ?_⟩
            intro x411 ex411
            have f48 : 0 ≤ x411.toInt ∧ x411.toInt ≤ 65535 := by have h9 := zS_value (k := (-220) * p1.toInt + x62.toInt) hS ex411 (by omega) (by omega) (by omega); omega
            exact j_419 x411 r7_0 (by omega)
        refine ⟨fun c75_0 => ?_, fun c75_1 => ?_, fun c75_2 => ?_, fun c75_3 => ?_, fun c75_4 => ?_, fun c75_5 => ?_, fun c75_6 => ?_, fun c75_7 => ?_, fun c75_8 => ?_, fun c75_9 => ?_, fun c75_10 => ?_, fun c75_11 => ?_, fun c75_12 => ?_, fun c75_13 => ?_, fun c75_14 => ?_, ?_⟩
        · have f49 : p3.toInt = 0 := i_eq (a := p3.toInt) (b := 0) rfl rfl c75_0
          exact hq x71 0 r7_0 (by omega)
        · have f50 : p3.toInt = 1 := i_eq (a := p3.toInt) (b := 1) rfl rfl c75_1
          refine ⟨i_in (by omega) (by omega), ?_⟩
          intro x169 ex169
          exact hq x169 0 r7_0 (by omega)
        · have f51 : p3.toInt = 2 := i_eq (a := p3.toInt) (b := 2) rfl rfl c75_2
          refine ⟨i_in (by omega) (by omega), ?_⟩
          intro x177 ex177
          have f52 : 0 ≤ x177.toInt + 1 ∧ 220 * p1.toInt + x177.toInt + 1 ≤ x62.toInt ∧ ((x62.toInt ≤ 220 * p1.toInt) ∨ (0 ≤ x177.toInt)) := by have h9 := zS_holder (k := (-220) * p1.toInt + x62.toInt) hS ex177 (by omega) (by omega) (by omega); omega
          exact hq x177 0 r7_0 (by omega)
        · have f53 : p3.toInt = 3 := i_eq (a := p3.toInt) (b := 3) rfl rfl c75_3
          refine ⟨i_in (by omega) (by omega), ?_⟩
          intro x185 ex185
          exact hq x185 0 r7_0 (by omega)
        · have f54 : p3.toInt = 4 := i_eq (a := p3.toInt) (b := 4) rfl rfl c75_4
          refine ⟨i_in (by omega) (by omega), ?_⟩
          intro x193 ex193
          exact hq x193 0 r7_0 (by omega)
        · have f55 : p3.toInt = 5 := i_eq (a := p3.toInt) (b := 5) rfl rfl c75_5
          refine ⟨i_in (by omega) (by omega), ?_⟩
          intro x201 ex201
          have f56 : (0 ≤ x201.toInt ∧ x201.toInt ≤ 1) := i_bz ex201
          have j_210 : ∀ (s0_210 : Int32), ((s0_210.toInt = 0 ∧ x201.toInt = 0) ∨ (s0_210.toInt = 1)) → w_X12_node_210 Q s0_210 0 r7_0 := by
            intro s0_210 f57
            unfold w_X12_node_210
            exact hq s0_210 0 r7_0 (by omega)
          refine ⟨fun c202 => ?_, fun c202 => ?_⟩
          · have f58 : x201.toInt = 0 := i_eq (a := x201.toInt) (b := 0) rfl rfl c202
            exact j_210 0 (by omega)
          · have f59 : x201.toInt ≠ 0 := i_ne (a := x201.toInt) (b := 0) rfl rfl c202
            exact j_210 1 (by omega)
        · have f60 : p3.toInt = 6 := i_eq (a := p3.toInt) (b := 6) rfl rfl c75_6
          refine ⟨i_in (by omega) (by omega), ?_⟩
          intro x217 ex217
          have f61 : (0 ≤ x217.toInt ∧ x217.toInt ≤ 1) := i_bz ex217
          have j_226 : ∀ (s0_226 : Int32), ((s0_226.toInt = 0 ∧ x217.toInt = 0) ∨ (s0_226.toInt = 1)) → w_X12_node_226 Q s0_226 0 r7_0 := by
            intro s0_226 f62
            unfold w_X12_node_226
            exact hq s0_226 0 r7_0 (by omega)
          refine ⟨fun c218 => ?_, fun c218 => ?_⟩
          · have f63 : x217.toInt = 0 := i_eq (a := x217.toInt) (b := 0) rfl rfl c218
            exact j_226 0 (by omega)
          · have f64 : x217.toInt ≠ 0 := i_ne (a := x217.toInt) (b := 0) rfl rfl c218
            exact j_226 1 (by omega)
        · have f65 : p3.toInt = 10 := i_eq (a := p3.toInt) (b := 10) rfl rfl c75_7
          have j_246 : ∀ (s0_246 : Int32) (v_finding_246 : Int32), ((s0_246.toInt + 6 = 0 ∧ v_finding_246.toInt = 3) ∨ (v_finding_246.toInt = r7_0.toInt ∧ x71.toInt = 0 ∧ 0 ≤ s0_246.toInt ∧ s0_246.toInt ≤ 65535)) → w_X12_node_246 Q s0_246 0 v_finding_246 := by
            intro s0_246 v_finding_246 f66
            unfold w_X12_node_246
            exact hq s0_246 0 v_finding_246 (by omega)
          refine ⟨fun c229 => ?_, fun c229 => ?_⟩
          · have f67 : x71.toInt ≠ 0 := i_ne (a := x71.toInt) (b := 0) rfl rfl c229
            refine ok_X12_otherSort  (fun r243 r243_0 f68 f69 => ?_)
            exact j_246 r243 r243_0 (by omega)
          · have f70 : x71.toInt = 0 := i_eq (a := x71.toInt) (b := 0) rfl rfl c229
            refine ⟨i_in (by omega) (by omega), ?_⟩
            intro x238 ex238
            have f71 : 0 ≤ x238.toInt ∧ x238.toInt ≤ 65535 := by have h9 := zS_value (k := (-220) * p1.toInt + x62.toInt) hS ex238 (by omega) (by omega) (by omega); omega
            exact j_246 x238 r7_0 (by omega)
        · have f72 : p3.toInt = 11 := i_eq (a := p3.toInt) (b := 11) rfl rfl c75_8
          have j_267 : ∀ (s0_267 : Int32) (v_finding_267 : Int32), ((s0_267.toInt + 6 = 0 ∧ v_finding_267.toInt = 3) ∨ (v_finding_267.toInt = r7_0.toInt ∧ x71.toInt = 2 ∧ 0 ≤ s0_267.toInt ∧ s0_267.toInt ≤ 65535)) → w_X12_node_267 Q s0_267 0 v_finding_267 := by
            intro s0_267 v_finding_267 f73
            unfold w_X12_node_267
            exact hq s0_267 0 v_finding_267 (by omega)
          refine ⟨fun c250 => ?_, fun c250 => ?_⟩
          · have f74 : x71.toInt ≠ 2 := i_ne (a := x71.toInt) (b := 2) rfl rfl c250
            refine ok_X12_otherSort  (fun r264 r264_0 f75 f76 => ?_)
            exact j_267 r264 r264_0 (by omega)
          · have f77 : x71.toInt = 2 := i_eq (a := x71.toInt) (b := 2) rfl rfl c250
            refine ⟨i_in (by omega) (by omega), ?_⟩
            intro x259 ex259
            have f78 : 0 ≤ x259.toInt ∧ x259.toInt ≤ 65535 := by have h9 := zS_value (k := (-220) * p1.toInt + x62.toInt) hS ex259 (by omega) (by omega) (by omega); omega
            exact j_267 x259 r7_0 (by omega)
        · have f79 : p3.toInt = 12 := i_eq (a := p3.toInt) (b := 12) rfl rfl c75_9
          have j_288 : ∀ (s0_288 : Int32) (v_finding_288 : Int32), ((s0_288.toInt + 6 = 0 ∧ v_finding_288.toInt = 3) ∨ (v_finding_288.toInt = r7_0.toInt ∧ x71.toInt = 3 ∧ 0 ≤ s0_288.toInt ∧ s0_288.toInt ≤ 65535)) → w_X12_node_288 Q s0_288 0 v_finding_288 := by
            intro s0_288 v_finding_288 f80
            unfold w_X12_node_288
            exact hq s0_288 0 v_finding_288 (by omega)
          refine ⟨fun c271 => ?_, fun c271 => ?_⟩
          · have f81 : x71.toInt ≠ 3 := i_ne (a := x71.toInt) (b := 3) rfl rfl c271
            refine ok_X12_otherSort  (fun r285 r285_0 f82 f83 => ?_)
            exact j_288 r285 r285_0 (by omega)
          · have f84 : x71.toInt = 3 := i_eq (a := x71.toInt) (b := 3) rfl rfl c271
            refine ⟨i_in (by omega) (by omega), ?_⟩
            intro x280 ex280
            have f85 : 0 ≤ x280.toInt ∧ x280.toInt ≤ 65535 := by have h9 := zS_value (k := (-220) * p1.toInt + x62.toInt) hS ex280 (by omega) (by omega) (by omega); omega
            exact j_288 x280 r7_0 (by omega)
        · have f86 : p3.toInt = 13 := i_eq (a := p3.toInt) (b := 13) rfl rfl c75_10
          have j_309 : ∀ (s0_309 : Int32) (v_finding_309 : Int32), ((s0_309.toInt + 6 = 0 ∧ v_finding_309.toInt = 3) ∨ (v_finding_309.toInt = r7_0.toInt ∧ x71.toInt = 4 ∧ 0 ≤ s0_309.toInt ∧ s0_309.toInt ≤ 65535)) → w_X12_node_309 Q s0_309 0 v_finding_309 := by
            intro s0_309 v_finding_309 f87
            unfold w_X12_node_309
            exact hq s0_309 0 v_finding_309 (by omega)
          refine ⟨fun c292 => ?_, fun c292 => ?_⟩
          · have f88 : x71.toInt ≠ 4 := i_ne (a := x71.toInt) (b := 4) rfl rfl c292
            refine ok_X12_otherSort  (fun r306 r306_0 f89 f90 => ?_)
            exact j_309 r306 r306_0 (by omega)
          · have f91 : x71.toInt = 4 := i_eq (a := x71.toInt) (b := 4) rfl rfl c292
            refine ⟨i_in (by omega) (by omega), ?_⟩
            intro x301 ex301
            have f92 : 0 ≤ x301.toInt ∧ x301.toInt ≤ 65535 := by have h9 := zS_value (k := (-220) * p1.toInt + x62.toInt) hS ex301 (by omega) (by omega) (by omega); omega
            exact j_309 x301 r7_0 (by omega)
        · have f93 : p3.toInt = 14 := i_eq (a := p3.toInt) (b := 14) rfl rfl c75_11
          have j_331 : ∀ (s0_331 : Int32) (v_finding_331 : Int32), ((s0_331.toInt + 6 = 0 ∧ v_finding_331.toInt = 3) ∨ (v_finding_331.toInt = r7_0.toInt ∧ x71.toInt = 8 ∧ 0 ≤ s0_331.toInt ∧ s0_331.toInt ≤ 65535)) → w_X12_node_331 Q s0_331 0 v_finding_331 := by
            intro s0_331 v_finding_331 f94
            unfold w_X12_node_331
            exact hq s0_331 0 v_finding_331 (by omega)
          refine ⟨fun c314 => ?_, fun c314 => ?_⟩
          · have f95 : x71.toInt ≠ 8 := i_ne (a := x71.toInt) (b := 8) rfl rfl c314
            refine ok_X12_otherSort  (fun r328 r328_0 f96 f97 => ?_)
            exact j_331 r328 r328_0 (by omega)
          · have f98 : x71.toInt = 8 := i_eq (a := x71.toInt) (b := 8) rfl rfl c314
            refine ⟨i_in (by omega) (by omega), ?_⟩
            intro x323 ex323
            have f99 : 0 ≤ x323.toInt ∧ x323.toInt ≤ 65535 := by have h9 := zS_value (k := (-220) * p1.toInt + x62.toInt) hS ex323 (by omega) (by omega) (by omega); omega
            exact j_331 x323 r7_0 (by omega)
        · have f100 : p3.toInt = 15 := i_eq (a := p3.toInt) (b := 15) rfl rfl c75_12
          have j_353 : ∀ (s0_353 : Int32) (v_finding_353 : Int32), ((s0_353.toInt + 6 = 0 ∧ v_finding_353.toInt = 3) ∨ (v_finding_353.toInt = r7_0.toInt ∧ x71.toInt = 9 ∧ 0 ≤ s0_353.toInt ∧ s0_353.toInt ≤ 65535)) → w_X12_node_353 Q s0_353 0 v_finding_353 := by
            intro s0_353 v_finding_353 f101
            unfold w_X12_node_353
            exact hq s0_353 0 v_finding_353 (by omega)
          refine ⟨fun c336 => ?_, fun c336 => ?_⟩
          · have f102 : x71.toInt ≠ 9 := i_ne (a := x71.toInt) (b := 9) rfl rfl c336
            refine ok_X12_otherSort  (fun r350 r350_0 f103 f104 => ?_)
            exact j_353 r350 r350_0 (by omega)
          · have f105 : x71.toInt = 9 := i_eq (a := x71.toInt) (b := 9) rfl rfl c336
            refine ⟨i_in (by omega) (by omega), ?_⟩
            intro x345 ex345
            have f106 : 0 ≤ x345.toInt ∧ x345.toInt ≤ 65535 := by have h9 := zS_value (k := (-220) * p1.toInt + x62.toInt) hS ex345 (by omega) (by omega) (by omega); omega
            exact j_353 x345 r7_0 (by omega)
        · have f107 : p3.toInt = 16 := i_eq (a := p3.toInt) (b := 16) rfl rfl c75_13
          have j_375 : ∀ (s0_375 : Int32) (v_finding_375 : Int32), ((s0_375.toInt + 6 = 0 ∧ v_finding_375.toInt = 3) ∨ (v_finding_375.toInt = r7_0.toInt ∧ x71.toInt = 7 ∧ 0 ≤ s0_375.toInt ∧ s0_375.toInt ≤ 20)) → w_X12_node_375 Q s0_375 0 v_finding_375 := by
            intro s0_375 v_finding_375 f108
            unfold w_X12_node_375
            exact hq s0_375 0 v_finding_375 (by omega)
          refine ⟨fun c358 => ?_, fun c358 => ?_⟩
          · have f109 : x71.toInt ≠ 7 := i_ne (a := x71.toInt) (b := 7) rfl rfl c358
            refine ok_X12_otherSort  (fun r372 r372_0 f110 f111 => ?_)
            exact j_375 r372 r372_0 (by omega)
          · have f112 : x71.toInt = 7 := i_eq (a := x71.toInt) (b := 7) rfl rfl c358
            refine ⟨i_in (by omega) (by omega), ?_⟩
            intro x367 ex367
            have f113 : 0 ≤ x367.toInt ∧ x367.toInt ≤ 20 := by have h9 := zS_least (k := (-220) * p1.toInt + x62.toInt) hS ex367 (by omega) (by omega) (by omega); omega
            exact j_375 x367 r7_0 (by omega)
        · have f114 : p3.toInt = 17 := i_eq (a := p3.toInt) (b := 17) rfl rfl c75_14
          have j_397 : ∀ (s0_397 : Int32) (v_finding_397 : Int32), ((s0_397.toInt + 6 = 0 ∧ v_finding_397.toInt = 3) ∨ (v_finding_397.toInt = r7_0.toInt ∧ x71.toInt = 7 ∧ 0 ≤ s0_397.toInt + 1 ∧ s0_397.toInt ≤ 20)) → w_X12_node_397 Q s0_397 0 v_finding_397 := by
            intro s0_397 v_finding_397 f115
            unfold w_X12_node_397
            exact hq s0_397 0 v_finding_397 (by omega)
          refine ⟨fun c380 => ?_, fun c380 => ?_⟩
          · have f116 : x71.toInt ≠ 7 := i_ne (a := x71.toInt) (b := 7) rfl rfl c380
            refine ok_X12_otherSort  (fun r394 r394_0 f117 f118 => ?_)
            exact j_397 r394 r394_0 (by omega)
          · have f119 : x71.toInt = 7 := i_eq (a := x71.toInt) (b := 7) rfl rfl c380
            refine ⟨i_in (by omega) (by omega), ?_⟩
            intro x389 ex389
            have f120 : 0 ≤ x389.toInt + 1 ∧ x389.toInt ≤ 20 := by have h9 := zS_most (k := (-220) * p1.toInt + x62.toInt) hS ex389 (by omega) (by omega) (by omega); omega
            exact j_397 x389 r7_0 (by omega)
        · intro c75_0 c75_1 c75_2 c75_3 c75_4 c75_5 c75_6 c75_7 c75_8 c75_9 c75_10 c75_11 c75_12 c75_13 c75_14
          have f121 : p3.toInt ≠ 0 := i_ne (a := p3.toInt) (b := 0) rfl rfl c75_0
          have f122 : p3.toInt ≠ 1 := i_ne (a := p3.toInt) (b := 1) rfl rfl c75_1
          have f123 : p3.toInt ≠ 2 := i_ne (a := p3.toInt) (b := 2) rfl rfl c75_2
          have f124 : p3.toInt ≠ 3 := i_ne (a := p3.toInt) (b := 3) rfl rfl c75_3
          have f125 : p3.toInt ≠ 4 := i_ne (a := p3.toInt) (b := 4) rfl rfl c75_4
          have f126 : p3.toInt ≠ 5 := i_ne (a := p3.toInt) (b := 5) rfl rfl c75_5
          have f127 : p3.toInt ≠ 6 := i_ne (a := p3.toInt) (b := 6) rfl rfl c75_6
          have f128 : p3.toInt ≠ 10 := i_ne (a := p3.toInt) (b := 10) rfl rfl c75_7
          have f129 : p3.toInt ≠ 11 := i_ne (a := p3.toInt) (b := 11) rfl rfl c75_8
          have f130 : p3.toInt ≠ 12 := i_ne (a := p3.toInt) (b := 12) rfl rfl c75_9
          have f131 : p3.toInt ≠ 13 := i_ne (a := p3.toInt) (b := 13) rfl rfl c75_10
          have f132 : p3.toInt ≠ 14 := i_ne (a := p3.toInt) (b := 14) rfl rfl c75_11
          have f133 : p3.toInt ≠ 15 := i_ne (a := p3.toInt) (b := 15) rfl rfl c75_12
          have f134 : p3.toInt ≠ 16 := i_ne (a := p3.toInt) (b := 16) rfl rfl c75_13
          have f135 : p3.toInt ≠ 17 := i_ne (a := p3.toInt) (b := 17) rfl rfl c75_14
          exact j_398  (by omega) (by omega) (by omega) (by omega) (by omega) (by omega) (by omega) (by omega) (by omega) (by omega) (by omega) (by omega) (by omega) (by omega) (by omega)
      refine ⟨fun c39 => ?_, fun c39 => ?_⟩
      · have f136 : r36.toInt ≠ 0 := i_ne (a := r36.toInt) (b := 0) rfl rfl c39
        exact j_56  
      · have f137 : r36.toInt = 0 := i_eq (a := r36.toInt) (b := 0) rfl rfl c39
        refine ok_X12_in  (fun r47 f138 f139 f140 f141 f142 f143 => ?_)
        refine ⟨fun c50 => ?_, fun c50 => ?_⟩
        · have f144 : r47.toInt ≠ 0 := i_ne (a := r47.toInt) (b := 0) rfl rfl c50
          exact j_56  
        · have f145 : r47.toInt = 0 := i_eq (a := r47.toInt) (b := 0) rfl rfl c50
          exact j_53  
  · have f146 : r7.toInt ≠ 0 := i_ne (a := r7.toInt) (b := 0) rfl rfl c10
    exact hq (-2) 0 r7_0 (by omega)
set_option maxHeartbeats 4000000 in
theorem ok_X12_named {p1 : Int32} {p2 : Int32} {v_finding : Int32} {v_isThere : Nat → Bool} {v_captures : Nat → Int32} {v_nameOf : Nat → Int32} {v_many : Nat → Int32} {v_sort : Nat → Int32} {v_value : Nat → Int32} {v_least : Nat → Int32} {v_most : Nat → Int32} {v_holder : Nat → Int32} {v_parts : Nat → Int32} {v_end : Nat → Int32} {v_firstPart : Nat → Int32} {v_partBegin : Nat → Int32} {v_partEnd : Nat → Int32} {v_size : Nat → Int32} {v_positions : Nat → Int32} {Q : Int32 → Int32 → Int32 → Prop} (u0 : zAll v_isThere v_many v_captures v_sort v_value v_least v_most v_holder v_parts v_end v_firstPart v_partBegin v_partEnd v_size v_positions) (hq : ∀ (r : Int32) (ov_thrown : Int32) (ov_finding : Int32), ov_thrown.toInt = 0 → 0 ≤ r.toInt + 4 → r.toInt ≤ 9 → Q r ov_thrown ov_finding) : w_X12_named p1 p2 v_finding v_isThere v_captures v_nameOf Q := by
  have q_t : (bz true).toInt = 1 := rfl
  have q_f : (bz false).toInt = 0 := rfl
  have q_m4 : ((-4) : Int32).toInt = (-4) := rfl
  have q_m2 : ((-2) : Int32).toInt = (-2) := rfl
  have q_m1 : ((-1) : Int32).toInt = (-1) := rfl
  have q_0 : (0 : Int32).toInt = 0 := rfl
  have q_1 : (1 : Int32).toInt = 1 := rfl
  have q_97 : (97 : Int32).toInt = 97 := rfl
  have q_122 : (122 : Int32).toInt = 122 := rfl
  unfold w_X12_named
  refine ok_X12_wrongSlot  (fun r7 r7_0 f1 f2 f3 u7_0 => ?_)
  refine ⟨fun c10 => ?_, fun c10 => ?_⟩
  · have f4 : r7.toInt = 0 := i_eq (a := r7.toInt) (b := 0) rfl rfl c10
    have hSM := zAll_s u0 (u7_0 (by omega)) (by omega) (by omega)
    have hS := hSM.1
    have hM := hSM.2
    have f5 : 1 ≤ (zg v_many p1.toInt : Int) := (zS_n hS).1
    have f6 : (zg v_many p1.toInt : Int) ≤ 220 := (zS_n hS).2
    have f7 : 0 ≤ (zg v_captures p1.toInt : Int) := (zS_c hS).1
    have f8 : (zg v_captures p1.toInt : Int) ≤ 9 := (zS_c hS).2
    refine ok_X12_in  (fun r21 f9 f10 f11 f12 f13 f14 => ?_)
    refine ⟨fun c24 => ?_, fun c24 => ?_⟩
    · have f15 : r21.toInt ≠ 0 := i_ne (a := r21.toInt) (b := 0) rfl rfl c24
      have j_32 : ∀ n_32 : Nat, ∀ (l3_32 : Int32), 1 ≤ l3_32.toInt → l3_32.toInt ≤ 10 → ((-1) * l3_32.toInt + 10).toNat < n_32 → w_X12_named_32 p1 p2 v_captures v_nameOf Q 0 r7_0 n_32 l3_32 := by
        intro n_32
        induction n_32 with
        | zero =>
          intro l3_32 f16 f17 hm_32
          exfalso; omega
        | succ n_32 ih_32 =>
          intro l3_32 f16 f17 hm_32
          unfold w_X12_named_32
          unfold w_X12_named_32B
          refine ⟨i_in (by omega) (by omega), ?_⟩
          intro x38 ex38
          have f18 : x38.toInt = (zg v_captures p1.toInt : Int) := zg_at ex38
          refine ⟨fun c39 => ?_, fun c39 => ?_⟩
          · have f19 : x38.toInt < l3_32.toInt := i_lt (a := x38.toInt) (b := l3_32.toInt) rfl rfl c39
            exact hq (-1) 0 r7_0 (by omega) (by omega) (by omega)
          · have f20 : l3_32.toInt ≤ x38.toInt := i_nlt (a := x38.toInt) (b := l3_32.toInt) rfl rfl c39
            intro x49 ex49
            have f21 : x49.toInt = 10 * p1.toInt := i_mul (a := 10) (b := p1.toInt) ex49 rfl rfl (by omega) (by omega)
            intro x51 ex51
            have f22 : x51.toInt = x49.toInt + l3_32.toInt := i_add (a := x49.toInt) (b := l3_32.toInt) ex51 rfl rfl (by omega) (by omega)
            refine ⟨i_in (by omega) (by omega), ?_⟩
            intro x52 ex52
            refine ⟨fun c54 => ?_, fun c54 => ?_⟩
            · have f23 : x52.toInt ≠ p2.toInt := i_ne (a := x52.toInt) (b := p2.toInt) rfl rfl c54
              intro x59 ex59
              have f24 : x59.toInt = l3_32.toInt + 1 := i_add (a := l3_32.toInt) (b := 1) ex59 rfl rfl (by omega) (by omega)
              exact ih_32 x59 (by omega) (by omega) (by have h8_0 := i_rng l3_32; have h8_1 := i_rng x59; omega)
            · have f25 : x52.toInt = p2.toInt := i_eq (a := x52.toInt) (b := p2.toInt) rfl rfl c54
              exact hq l3_32 0 r7_0 (by omega) (by omega) (by omega)
      exact ⟨(9 : Int).toNat + 1, j_32   ((9 : Int).toNat + 1) 1 (by omega) (by omega) (by omega)⟩
    · have f26 : r21.toInt = 0 := i_eq (a := r21.toInt) (b := 0) rfl rfl c24
      exact hq (-4) 0 r7_0 (by omega) (by omega) (by omega)
  · have f27 : r7.toInt ≠ 0 := i_ne (a := r7.toInt) (b := 0) rfl rfl c10
    exact hq (-2) 0 r7_0 (by omega) (by omega) (by omega)
set_option maxHeartbeats 4000000 in
theorem ok_X12_otherCase {p0 : Int32} {Q : Int32 → Prop} (a0 : 0 ≤ p0.toInt) (a1 : p0.toInt ≤ 65535) (hq : ∀ (r : Int32), 0 ≤ r.toInt → r.toInt ≤ 65535 → ((r.toInt = p0.toInt) ∨ (r.toInt ≤ 122 ∧ p0.toInt ≤ 122)) → ((p0.toInt ≤ 64) ∨ (91 ≤ p0.toInt) ∨ (r.toInt = p0.toInt + 32)) → ((p0.toInt ≤ 96) ∨ (123 ≤ p0.toInt) ∨ (r.toInt + 32 = p0.toInt)) → ((65 ≤ p0.toInt ∧ p0.toInt ≤ 90) ∨ (97 ≤ p0.toInt ∧ p0.toInt ≤ 122) ∨ (r.toInt = p0.toInt)) → Q r) : w_X12_otherCase p0 Q := by
  have q_t : (bz true).toInt = 1 := rfl
  have q_f : (bz false).toInt = 0 := rfl
  have q_65 : (65 : Int32).toInt = 65 := rfl
  have q_90 : (90 : Int32).toInt = 90 := rfl
  have q_97 : (97 : Int32).toInt = 97 := rfl
  have q_122 : (122 : Int32).toInt = 122 := rfl
  unfold w_X12_otherCase
  refine ok_X12_in  (fun r5 f1 f2 f3 f4 f5 f6 => ?_)
  have j_37 : ∀ (s0_37 : Int32), 0 ≤ s0_37.toInt → s0_37.toInt ≤ 65535 → ((s0_37.toInt = p0.toInt) ∨ (s0_37.toInt ≤ 122 ∧ p0.toInt ≤ 122)) → ((p0.toInt ≤ 64) ∨ (91 ≤ p0.toInt) ∨ (s0_37.toInt = p0.toInt + 32)) → ((p0.toInt ≤ 96) ∨ (123 ≤ p0.toInt) ∨ (s0_37.toInt + 32 = p0.toInt)) → ((65 ≤ p0.toInt ∧ p0.toInt ≤ 90) ∨ (97 ≤ p0.toInt ∧ p0.toInt ≤ 122) ∨ (s0_37.toInt = p0.toInt)) → ((s0_37.toInt = p0.toInt ∧ r5.toInt = 0) ∨ (r5.toInt = 0 ∧ s0_37.toInt + 32 = p0.toInt) ∨ (s0_37.toInt = p0.toInt + 32)) → w_X12_otherCase_37 Q s0_37 := by
    intro s0_37 f7 f8 f9 f10 f11 f12 f13
    unfold w_X12_otherCase_37
    exact hq s0_37 (by omega) (by omega) (by omega) (by omega) (by omega) (by omega)
  refine ⟨fun c8 => ?_, fun c8 => ?_⟩
  · have f14 : r5.toInt = 0 := i_eq (a := r5.toInt) (b := 0) rfl rfl c8
    refine ok_X12_in  (fun r23 f15 f16 f17 f18 f19 f20 => ?_)
    refine ⟨fun c26 => ?_, fun c26 => ?_⟩
    · have f21 : r23.toInt = 0 := i_eq (a := r23.toInt) (b := 0) rfl rfl c26
      exact j_37 p0 (by omega) (by omega) (by omega) (by omega) (by omega) (by omega) (by omega)
    · have f22 : r23.toInt ≠ 0 := i_ne (a := r23.toInt) (b := 0) rfl rfl c26
      intro x32 ex32
      have f23 : x32.toInt = p0.toInt - 32 := i_sub (a := p0.toInt) (b := 32) ex32 rfl rfl (by omega) (by omega)
      exact j_37 x32 (by omega) (by omega) (by omega) (by omega) (by omega) (by omega) (by omega)
  · have f24 : r5.toInt ≠ 0 := i_ne (a := r5.toInt) (b := 0) rfl rfl c8
    intro x14 ex14
    have f25 : x14.toInt = p0.toInt + 32 := i_add (a := p0.toInt) (b := 32) ex14 rfl rfl (by omega) (by omega)
    exact j_37 x14 (by omega) (by omega) (by omega) (by omega) (by omega) (by omega) (by omega)
set_option maxHeartbeats 4000000 in
theorem ok_X12_isInParts {p1 : Int32} {p2 : Int32} {v_parts : Nat → Int32} {v_firstPart : Nat → Int32} {v_partBegin : Nat → Int32} {v_partEnd : Nat → Int32} {v_sort : Nat → Int32} {v_value : Nat → Int32} {v_least : Nat → Int32} {v_most : Nat → Int32} {v_holder : Nat → Int32} {v_end : Nat → Int32} {gb9 : Int} {gq9 : Int} {gn9 : Int} {gc9 : Int} {Q : Int32 → Prop} (u0 : zSl v_sort v_value v_least v_most v_holder v_parts v_end v_firstPart v_partBegin v_partEnd gb9 gq9 gn9 gc9) (u1 : gb9 ≤ p1.toInt) (u2 : p1.toInt < gb9 + gn9) (u3 : 0 ≤ gb9 ∧ gb9 ≤ 1100) (u4 : 0 ≤ gq9 ∧ gq9 ≤ 2100) (u5 : zg v_sort p1.toInt = 2) (hq : ∀ (r : Int32), 0 ≤ r.toInt + 1 → 0 ≤ r.toInt → r.toInt ≤ 1 → r.toInt ≤ 2 → r.toInt ≤ p1.toInt + 1 → Q r) : w_X12_isInParts p1 p2 v_parts v_firstPart v_partBegin v_partEnd Q := by
  have q_t : (bz true).toInt = 1 := rfl
  have q_f : (bz false).toInt = 0 := rfl
  have q_0 : (0 : Int32).toInt = 0 := rfl
  have q_1 : (1 : Int32).toInt = 1 := rfl
  unfold w_X12_isInParts
  have f1 : (gb9 : Int) ≤ p1.toInt := u1
  have f2 : p1.toInt + 1 ≤ (gb9 : Int) + (gn9 : Int) := u2
  have f3 : 0 ≤ (gb9 : Int) := u3.1
  have f4 : (gb9 : Int) ≤ 1100 := u3.2
  have f5 : 0 ≤ (gq9 : Int) := u4.1
  have f6 : (gq9 : Int) ≤ 2100 := u4.2
  have f7 : (gn9 : Int) ≤ 220 := (zS_n u0).2
  refine ⟨i_in (by omega) (by omega), ?_⟩
  intro x7 ex7
  have f8 : ((gq9 : Int) ≤ x7.toInt ∧ x7.toInt ≤ (gq9 : Int) + 420) := zS_fp0 (k := p1.toInt - gb9) u0 ex7 (by omega) (by omega) (by omega) u5
  have j_10 : ∀ n_10 : Nat, ∀ (l3_10 : Int32) (l4_10 : Int32), 0 ≤ l3_10.toInt → l3_10.toInt ≤ 1 → l3_10.toInt ≤ l4_10.toInt → l4_10.toInt ≤ 2520 → x7.toInt ≤ l4_10.toInt → ((-1) * l4_10.toInt + 2147483648).toNat < n_10 → w_X12_isInParts_10 p1 p2 v_parts v_firstPart v_partBegin v_partEnd Q n_10 l3_10 l4_10 := by
    intro n_10
    induction n_10 with
    | zero =>
      intro l3_10 l4_10 f9 f10 f11 f12 f13 hm_10
      exfalso; omega
    | succ n_10 ih_10 =>
      intro l3_10 l4_10 f9 f10 f11 f12 f13 hm_10
      unfold w_X12_isInParts_10
      unfold w_X12_isInParts_10B
      refine ⟨i_in (by omega) (by omega), ?_⟩
      intro x17 ex17
      have f14 : x17.toInt = x7.toInt := congrArg Int32.toInt (ex17.trans ex7.symm)
      refine ⟨i_in (by omega) (by omega), ?_⟩
      intro x23 ex23
      have f15 : ((gq9 : Int) ≤ x17.toInt ∧ 0 ≤ x23.toInt ∧ x17.toInt + x23.toInt ≤ (gq9 : Int) + 420) := zS_fp (k := p1.toInt - gb9) u0 ex17 ex23 (by omega) (by omega) (by omega) (by omega) u5
      intro x24 ex24
      have f16 : x24.toInt = x17.toInt + x23.toInt := i_add (a := x17.toInt) (b := x23.toInt) ex24 rfl rfl (by omega) (by omega)
      refine ⟨fun c25 => ?_, fun c25 => ?_⟩
      · have f17 : x24.toInt ≤ l4_10.toInt := i_le (a := x24.toInt) (b := l4_10.toInt) rfl rfl c25
        refine ⟨i_01 (by omega) (by omega), ?_⟩
        exact hq l3_10 (by omega) (by omega) (by omega) (by omega) (by omega)
      · have f18 : l4_10.toInt < x24.toInt := i_nle (a := x24.toInt) (b := l4_10.toInt) rfl rfl c25
        have j_58 : ∀ (s0_58 : Int32), 0 ≤ s0_58.toInt → s0_58.toInt ≤ 1 → ((s0_58.toInt = 0 ∧ l3_10.toInt = 0) ∨ (s0_58.toInt = 1)) → w_X12_isInParts_58 Q (w_X12_isInParts_10 p1 p2 v_parts v_firstPart v_partBegin v_partEnd Q n_10) s0_58 l4_10 := by
          intro s0_58 f19 f20 f21
          unfold w_X12_isInParts_58
          intro x59 ex59
          have f22 : x59.toInt = l4_10.toInt + 1 := i_add (a := l4_10.toInt) (b := 1) ex59 rfl rfl (by omega) (by omega)
          exact ih_10 s0_58 x59 (by omega) (by omega) (by omega) (by omega) (by omega) (by have h8_0 := i_rng l4_10; have h8_1 := i_rng x59; omega)
        have j_53 : w_X12_isInParts_53 Q (w_X12_isInParts_10 p1 p2 v_parts v_firstPart v_partBegin v_partEnd Q n_10) l4_10 := by
          unfold w_X12_isInParts_53
          exact j_58 1 (by omega) (by omega) (by omega)
        refine ⟨fun c29 => ?_, fun c29 => ?_⟩
        · have f23 : l3_10.toInt ≠ 0 := i_ne (a := l3_10.toInt) (b := 0) rfl rfl c29
          exact j_53  
        · have f24 : l3_10.toInt = 0 := i_eq (a := l3_10.toInt) (b := 0) rfl rfl c29
          refine ⟨i_in (by omega) (by omega), ?_⟩
          intro x39 ex39
          refine ⟨i_in (by omega) (by omega), ?_⟩
          intro x46 ex46
          refine ok_X12_in  (fun r47 f25 f26 f27 f28 f29 f30 => ?_)
          refine ⟨fun c50 => ?_, fun c50 => ?_⟩
          · have f31 : r47.toInt = 0 := i_eq (a := r47.toInt) (b := 0) rfl rfl c50
            exact j_58 0 (by omega) (by omega) (by omega)
          · have f32 : r47.toInt ≠ 0 := i_ne (a := r47.toInt) (b := 0) rfl rfl c50
            exact j_53  
  exact ⟨((-1) * x7.toInt + 2147483648).toNat + 1, j_10   (((-1) * x7.toInt + 2147483648).toNat + 1) 0 x7 (by omega) (by omega) (by omega) (by omega) (by omega) (by omega)⟩
set_option maxHeartbeats 4000000 in
theorem ok_X12_takes {p1 : Int32} {p2 : Int32} {v_sort : Nat → Int32} {v_value : Nat → Int32} {v_parts : Nat → Int32} {v_firstPart : Nat → Int32} {v_inCase : Nat → Bool} {v_partBegin : Nat → Int32} {v_partEnd : Nat → Int32} {v_least : Nat → Int32} {v_most : Nat → Int32} {v_holder : Nat → Int32} {v_end : Nat → Int32} {gb9 : Int} {gq9 : Int} {gn9 : Int} {gc9 : Int} {Q : Int32 → Prop} (a0 : 0 ≤ p2.toInt) (a1 : p2.toInt ≤ 65535) (u0 : zSl v_sort v_value v_least v_most v_holder v_parts v_end v_firstPart v_partBegin v_partEnd gb9 gq9 gn9 gc9) (u1 : gb9 ≤ p1.toInt) (u2 : p1.toInt < gb9 + gn9) (u3 : 0 ≤ gb9 ∧ gb9 ≤ 1100) (u4 : 0 ≤ gq9 ∧ gq9 ≤ 2100) (u5 : zg v_sort p1.toInt ≤ 2) (u6 : 0 ≤ zg v_sort p1.toInt) (hq : ∀ (r : Int32), 0 ≤ r.toInt → r.toInt ≤ 1 → Q r) : w_X12_takes p1 p2 v_sort v_value v_parts v_firstPart v_inCase v_partBegin v_partEnd Q := by
  have q_t : (bz true).toInt = 1 := rfl
  have q_f : (bz false).toInt = 0 := rfl
  have q_0 : (0 : Int32).toInt = 0 := rfl
  have q_1 : (1 : Int32).toInt = 1 := rfl
  unfold w_X12_takes
  have f1 : (gb9 : Int) ≤ p1.toInt := u1
  have f2 : p1.toInt + 1 ≤ (gb9 : Int) + (gn9 : Int) := u2
  have f3 : 0 ≤ (gb9 : Int) := u3.1
  have f4 : (gb9 : Int) ≤ 1100 := u3.2
  have f5 : 0 ≤ (gq9 : Int) := u4.1
  have f6 : (gq9 : Int) ≤ 2100 := u4.2
  have f7 : (gn9 : Int) ≤ 220 := (zS_n u0).2
  refine ⟨i_in (by omega) (by omega), ?_⟩
  intro x5 ex5
  have f8 : (0 ≤ x5.toInt ∧ x5.toInt ≤ 1) := i_bz ex5
  have j_17 : ∀ (s0_17 : Int32), 0 ≤ s0_17.toInt → ((s0_17.toInt = p2.toInt ∧ x5.toInt = 0) ∨ (0 ≤ s0_17.toInt ∧ s0_17.toInt ≤ 65535)) → w_X12_takes_17 p1 p2 v_sort v_value v_parts v_firstPart v_partBegin v_partEnd Q s0_17 := by
    intro s0_17 f9 f10
    unfold w_X12_takes_17
    refine ⟨i_in (by omega) (by omega), ?_⟩
    intro x23 ex23
    have f11 : 0 ≤ x23.toInt ∧ x23.toInt ≤ 11 := by have h9 := zS_sort (k := (-1) * (gb9 : Int) + p1.toInt) u0 ex23 (by omega) (by omega) (by omega); omega
    refine ⟨fun c24 => ?_, fun c24 => ?_⟩
    · have f12 : x23.toInt ≠ 0 := i_ne (a := x23.toInt) (b := 0) rfl rfl c24
      refine ⟨i_in (by omega) (by omega), ?_⟩
      intro x58 ex58
      have f13 : x58.toInt = x23.toInt := congrArg Int32.toInt (ex58.trans ex23.symm)
      have f14 : 0 ≤ x58.toInt ∧ x58.toInt ≤ 11 := by have h9 := zS_sort (k := (-1) * (gb9 : Int) + p1.toInt) u0 ex58 (by omega) (by omega) (by omega); omega
      refine ⟨fun c60 => ?_, fun c60 => ?_⟩
      · have f15 : x58.toInt ≠ 1 := i_ne (a := x58.toInt) (b := 1) rfl rfl c60
        refine ok_X12_isInParts (v_sort := v_sort) (v_value := v_value) (v_least := v_least) (v_most := v_most) (v_holder := v_holder) (v_end := v_end) (gb9 := gb9) (gq9 := gq9) (gn9 := gn9) (gc9 := gc9) (by exact u0) (by exact u1) (by exact u2) (by exact u3) (by exact u4) (by have h8 := zg_at ex23; have h7 := zg_at ex58; omega) (fun r78 f16 f17 f18 f19 f20 => ?_)
        have j_98 : ∀ (s0_98 : Int32), 0 ≤ s0_98.toInt → s0_98.toInt ≤ 1 → ((s0_98.toInt = 0 ∧ r78.toInt = 0 ∧ 0 ≤ p1.toInt + 1) ∨ (s0_98.toInt = 1)) → w_X12_takes_98 p1 v_value Q s0_98 := by
          intro s0_98 f21 f22 f23
          unfold w_X12_takes_98
          refine ⟨i_in (by omega) (by omega), ?_⟩
          intro x103 ex103
          have f24 : 0 ≤ x103.toInt ∧ x103.toInt ≤ 65535 := by have h9 := zS_value (k := (-1) * (gb9 : Int) + p1.toInt) u0 ex103 (by omega) (by omega) (by omega); omega
          have j_113 : ∀ (s0_113 : Int32), 0 ≤ s0_113.toInt → s0_113.toInt ≤ 1 → ((s0_113.toInt = 0) ∨ (s0_113.toInt = 1 ∧ x103.toInt = 1)) → w_X12_takes_113 Q s0_113 s0_98 := by
            intro s0_113 f25 f26 f27
            unfold w_X12_takes_113
            have j_121 : ∀ (s0_121 : Int32), 0 ≤ s0_121.toInt → s0_121.toInt ≤ 1 → ((s0_121.toInt = 0 ∧ s0_98.toInt = s0_113.toInt) ∨ (s0_121.toInt = 1)) → w_X12_takes_121 Q s0_121 := by
              intro s0_121 f28 f29 f30
              unfold w_X12_takes_121
              refine ⟨i_01 (by omega) (by omega), ?_⟩
              exact hq s0_121 (by omega) (by omega)
            refine ⟨fun c113 => ?_, fun c113 => ?_⟩
            · have f31 : s0_98.toInt = s0_113.toInt := i_eq (a := s0_98.toInt) (b := s0_113.toInt) rfl rfl c113
              exact j_121 0 (by omega) (by omega) (by omega)
            · have f32 : s0_98.toInt ≠ s0_113.toInt := i_ne (a := s0_98.toInt) (b := s0_113.toInt) rfl rfl c113
              exact j_121 1 (by omega) (by omega) (by omega)
          refine ⟨fun c105 => ?_, fun c105 => ?_⟩
          · have f33 : x103.toInt ≠ 1 := i_ne (a := x103.toInt) (b := 1) rfl rfl c105
            exact j_113 0 (by omega) (by omega) (by omega)
          · have f34 : x103.toInt = 1 := i_eq (a := x103.toInt) (b := 1) rfl rfl c105
            exact j_113 1 (by omega) (by omega) (by omega)
        have j_93 : w_X12_takes_93 p1 v_value Q := by
          unfold w_X12_takes_93
          exact j_98 1 (by omega) (by omega) (by omega)
        refine ⟨fun c81 => ?_, fun c81 => ?_⟩
        · have f35 : r78.toInt ≠ 0 := i_ne (a := r78.toInt) (b := 0) rfl rfl c81
          exact j_93  
        · have f36 : r78.toInt = 0 := i_eq (a := r78.toInt) (b := 0) rfl rfl c81
          refine ok_X12_isInParts (v_sort := v_sort) (v_value := v_value) (v_least := v_least) (v_most := v_most) (v_holder := v_holder) (v_end := v_end) (gb9 := gb9) (gq9 := gq9) (gn9 := gn9) (gc9 := gc9) (by exact u0) (by exact u1) (by exact u2) (by exact u3) (by exact u4) (by have h8 := zg_at ex23; have h7 := zg_at ex58; omega) (fun r87 f37 f38 f39 f40 f41 => ?_)
          refine ⟨fun c90 => ?_, fun c90 => ?_⟩
          · have f42 : r87.toInt = 0 := i_eq (a := r87.toInt) (b := 0) rfl rfl c90
            exact j_98 0 (by omega) (by omega) (by omega)
          · have f43 : r87.toInt ≠ 0 := i_ne (a := r87.toInt) (b := 0) rfl rfl c90
            exact j_93  
      · have f44 : x58.toInt = 1 := i_eq (a := x58.toInt) (b := 1) rfl rfl c60
        have j_74 : ∀ (s0_74 : Int32), 0 ≤ s0_74.toInt → s0_74.toInt ≤ 1 → ((s0_74.toInt = 0 ∧ p2.toInt = 10) ∨ (s0_74.toInt = 1)) → w_X12_takes_74 Q s0_74 := by
          intro s0_74 f45 f46 f47
          unfold w_X12_takes_74
          refine ⟨i_01 (by omega) (by omega), ?_⟩
          exact hq s0_74 (by omega) (by omega)
        refine ⟨fun c66 => ?_, fun c66 => ?_⟩
        · have f48 : p2.toInt = 10 := i_eq (a := p2.toInt) (b := 10) rfl rfl c66
          exact j_74 0 (by omega) (by omega) (by omega)
        · have f49 : p2.toInt ≠ 10 := i_ne (a := p2.toInt) (b := 10) rfl rfl c66
          exact j_74 1 (by omega) (by omega) (by omega)
    · have f50 : x23.toInt = 0 := i_eq (a := x23.toInt) (b := 0) rfl rfl c24
      refine ⟨i_in (by omega) (by omega), ?_⟩
      intro x32 ex32
      have f51 : 0 ≤ x32.toInt ∧ x32.toInt ≤ 65535 := by have h9 := zS_value (k := (-1) * (gb9 : Int) + p1.toInt) u0 ex32 (by omega) (by omega) (by omega); omega
      have j_52 : ∀ (s0_52 : Int32), 0 ≤ s0_52.toInt → s0_52.toInt ≤ 1 → ((s0_52.toInt = 0 ∧ 0 ≤ x32.toInt ∧ x32.toInt ≤ 65535) ∨ (s0_52.toInt = 1)) → w_X12_takes_52 Q s0_52 := by
        intro s0_52 f52 f53 f54
        unfold w_X12_takes_52
        refine ⟨i_01 (by omega) (by omega), ?_⟩
        exact hq s0_52 (by omega) (by omega)
      have j_47 : ((x32.toInt = p2.toInt) ∨ (0 ≤ x32.toInt ∧ x32.toInt ≤ 65535 ∧ x32.toInt = s0_17.toInt)) → w_X12_takes_47 Q := by
        intro f55
        unfold w_X12_takes_47
        exact j_52 1 (by omega) (by omega) (by omega)
      refine ⟨fun c34 => ?_, fun c34 => ?_⟩
      · have f56 : x32.toInt = p2.toInt := i_eq (a := x32.toInt) (b := p2.toInt) rfl rfl c34
        exact j_47  (by omega)
      · have f57 : x32.toInt ≠ p2.toInt := i_ne (a := x32.toInt) (b := p2.toInt) rfl rfl c34
        refine ⟨i_in (by omega) (by omega), ?_⟩
        intro x42 ex42
        have f58 : x42.toInt = x32.toInt := congrArg Int32.toInt (ex42.trans ex32.symm)
        have f59 : 0 ≤ x42.toInt ∧ x42.toInt ≤ 65535 := by have h9 := zS_value (k := (-1) * (gb9 : Int) + p1.toInt) u0 ex42 (by omega) (by omega) (by omega); omega
        refine ⟨fun c44 => ?_, fun c44 => ?_⟩
        · have f60 : x42.toInt ≠ s0_17.toInt := i_ne (a := x42.toInt) (b := s0_17.toInt) rfl rfl c44
          exact j_52 0 (by omega) (by omega) (by omega)
        · have f61 : x42.toInt = s0_17.toInt := i_eq (a := x42.toInt) (b := s0_17.toInt) rfl rfl c44
          exact j_47  (by omega)
  refine ⟨fun c6 => ?_, fun c6 => ?_⟩
  · have f62 : x5.toInt = 0 := i_eq (a := x5.toInt) (b := 0) rfl rfl c6
    exact j_17 p2 (by omega) (by omega)
  · have f63 : x5.toInt ≠ 0 := i_ne (a := x5.toInt) (b := 0) rfl rfl c6
    refine ok_X12_otherCase (by omega) (by omega) (fun r10 f64 f65 f66 f67 f68 f69 => ?_)
    exact j_17 r10 (by omega) (by omega)
set_option maxHeartbeats 4000000 in
theorem ok_X12_findBegun {p1 : Int32} {p2 : Int32} {v_many : Nat → Int32} {v_sort : Nat → Int32} {v_value : Nat → Int32} {v_most : Nat → Int32} {v_parts : Nat → Int32} {v_end : Nat → Int32} {v_firstPart : Nat → Int32} {v_mayEmpty : Nat → Bool} {v_inCase : Nat → Bool} {v_partBegin : Nat → Int32} {v_partEnd : Nat → Int32} {v_begun : Nat → Bool} {v_least : Nat → Int32} {v_holder : Nat → Int32} {v_captures : Nat → Int32} {Q : (Nat → Bool) → Prop} (a0 : 0 ≤ p1.toInt) (a1 : p1.toInt ≤ 5) (a2 : 0 ≤ p2.toInt) (a3 : p2.toInt ≤ 65535) (u0 : zSl v_sort v_value v_least v_most v_holder v_parts v_end v_firstPart v_partBegin v_partEnd (220 * p1.toInt) (420 * p1.toInt) (zg v_many p1.toInt) (zg v_captures p1.toInt)) (hq : ∀ (ov_begun : Nat → Bool), Q ov_begun) : w_X12_findBegun p1 p2 v_many v_sort v_value v_most v_parts v_end v_firstPart v_mayEmpty v_inCase v_partBegin v_partEnd v_begun Q := by
  have q_t : (bz true).toInt = 1 := rfl
  have q_f : (bz false).toInt = 0 := rfl
  have q_0 : (0 : Int32).toInt = 0 := rfl
  have q_1 : (1 : Int32).toInt = 1 := rfl
  unfold w_X12_findBegun
  have f1 : 1 ≤ (zg v_many p1.toInt : Int) := (zS_n u0).1
  have f2 : (zg v_many p1.toInt : Int) ≤ 220 := (zS_n u0).2
  have f3 : 0 ≤ (zg v_captures p1.toInt : Int) := (zS_c u0).1
  have f4 : (zg v_captures p1.toInt : Int) ≤ 9 := (zS_c u0).2
  intro x4 ex4
  have f5 : x4.toInt = 220 * p1.toInt := i_mul (a := 220) (b := p1.toInt) ex4 rfl rfl (by omega) (by omega)
  refine ⟨i_in (by omega) (by omega), ?_⟩
  intro x11 ex11
  have f6 : x11.toInt = (zg v_many p1.toInt : Int) := zg_at ex11
  intro x13 ex13
  have f7 : x13.toInt = x11.toInt - 1 := i_sub (a := x11.toInt) (b := 1) ex13 rfl rfl (by omega) (by omega)
  have j_16 : ∀ n_16 : Nat, ∀ (l4_16 : Int32) (v_begun_16 : Nat → Bool), 0 ≤ l4_16.toInt + 1 → l4_16.toInt ≤ x13.toInt → (l4_16.toInt + 2147483649).toNat < n_16 → w_X12_findBegun_16 p2 v_sort v_value v_most v_parts v_end v_firstPart v_mayEmpty v_inCase v_partBegin v_partEnd Q x4 n_16 l4_16 v_begun_16 := by
    intro n_16
    induction n_16 with
    | zero =>
      intro l4_16 v_begun_16 f8 f9 hm_16
      exfalso; omega
    | succ n_16 ih_16 =>
      intro l4_16 v_begun_16 f8 f9 hm_16
      unfold w_X12_findBegun_16
      unfold w_X12_findBegun_16B
      refine ⟨fun c18 => ?_, fun c18 => ?_⟩
      · have f10 : l4_16.toInt < 0 := i_lt (a := l4_16.toInt) (b := 0) rfl rfl c18
        exact hq v_begun_16 
      · have f11 : 0 ≤ l4_16.toInt := i_nlt (a := l4_16.toInt) (b := 0) rfl rfl c18
        intro x24 ex24
        have f12 : x24.toInt = x4.toInt + l4_16.toInt := i_add (a := x4.toInt) (b := l4_16.toInt) ex24 rfl rfl (by omega) (by omega)
        refine ⟨i_in (by omega) (by omega), ?_⟩
        intro x33 ex33
        have f13 : 0 ≤ x33.toInt ∧ x33.toInt ≤ 11 := by have h9 := zS_sort (k := (-220) * p1.toInt + x24.toInt) u0 ex33 (by omega) (by omega) (by omega); omega
        have j_63 : ∀ (s0_63 : Int32), ((s0_63.toInt = 0) ∨ (s0_63.toInt = 1)) → w_X12_findBegun_63 v_most v_end v_mayEmpty x4 Q (w_X12_findBegun_16 p2 v_sort v_value v_most v_parts v_end v_firstPart v_mayEmpty v_inCase v_partBegin v_partEnd Q x4 n_16) s0_63 l4_16 x24 x33 v_begun_16 := by
          intro s0_63 f14
          unfold w_X12_findBegun_63
          have j_112 : ∀ (s0_112 : Int32), ((s0_112.toInt = 1 ∧ 3 ≤ x33.toInt) ∨ (s0_112.toInt = 0)) → w_X12_findBegun_112 v_end v_mayEmpty x4 Q (w_X12_findBegun_16 p2 v_sort v_value v_most v_parts v_end v_firstPart v_mayEmpty v_inCase v_partBegin v_partEnd Q x4 n_16) s0_112 l4_16 x24 x33 s0_63 v_begun_16 := by
            intro s0_112 f15
            unfold w_X12_findBegun_112
            intro x117 ex117
            have f16 : x117.toInt = l4_16.toInt + 1 := i_add (a := l4_16.toInt) (b := 1) ex117 rfl rfl (by omega) (by omega)
            have j_120 : ∀ n_120 : Nat, ∀ (l7_120 : Int32) (l8_120 : Int32) (l9_120 : Int32), l7_120.toInt ≤ 1 → s0_63.toInt ≤ l7_120.toInt → 0 ≤ l8_120.toInt → l8_120.toInt ≤ s0_112.toInt → l9_120.toInt ≤ 220 → x117.toInt ≤ l9_120.toInt → ((-1) * l9_120.toInt + 2147483648).toNat < n_120 → w_X12_findBegun_120 v_end v_mayEmpty x4 Q (w_X12_findBegun_16 p2 v_sort v_value v_most v_parts v_end v_firstPart v_mayEmpty v_inCase v_partBegin v_partEnd Q x4 n_16) l4_16 x24 x33 v_begun_16 n_120 l7_120 l8_120 l9_120 := by
              intro n_120
              induction n_120 with
              | zero =>
                intro l7_120 l8_120 l9_120 f17 f18 f19 f20 f21 f22 hm_120
                exfalso; omega
              | succ n_120 ih_120 =>
                intro l7_120 l8_120 l9_120 f17 f18 f19 f20 f21 f22 hm_120
                unfold w_X12_findBegun_120
                unfold w_X12_findBegun_120B
                refine ⟨i_in (by omega) (by omega), ?_⟩
                intro x128 ex128
                have f23 : x24.toInt + 1 ≤ 220 * p1.toInt + x128.toInt ∧ x128.toInt ≤ (zg v_many p1.toInt : Int) := by have h9 := zS_end (k := (-220) * p1.toInt + x24.toInt) u0 ex128 (by omega) (by omega) (by omega); omega
                have j_198 : ((x128.toInt ≤ l9_120.toInt) ∨ (l9_120.toInt + 1 ≤ x128.toInt ∧ l8_120.toInt = 0)) → w_X12_findBegun_198 Q (w_X12_findBegun_16 p2 v_sort v_value v_most v_parts v_end v_firstPart v_mayEmpty v_inCase v_partBegin v_partEnd Q x4 n_16) l4_16 l7_120 v_begun_16 := by
                  intro f24
                  unfold w_X12_findBegun_198
                  refine ⟨i_in (by omega) (by omega), ?_⟩
                  intro g206 eg206
                  intro x207 ex207
                  have f25 : x207.toInt = l4_16.toInt + (-1) := i_add (a := l4_16.toInt) (b := (-1)) ex207 rfl rfl (by omega) (by omega)
                  exact ih_16 x207 g206 (by omega) (by omega) (by have h8_0 := i_rng l4_16; have h8_1 := i_rng x207; omega)
                refine ⟨fun c129 => ?_, fun c129 => ?_⟩
                · have f26 : x128.toInt ≤ l9_120.toInt := i_le (a := x128.toInt) (b := l9_120.toInt) rfl rfl c129
                  exact j_198  (by omega)
                · have f27 : l9_120.toInt < x128.toInt := i_nle (a := x128.toInt) (b := l9_120.toInt) rfl rfl c129
                  refine ⟨fun c134 => ?_, fun c134 => ?_⟩
                  · have f28 : l8_120.toInt = 0 := i_eq (a := l8_120.toInt) (b := 0) rfl rfl c134
                    exact j_198  (by omega)
                  · have f29 : l8_120.toInt ≠ 0 := i_ne (a := l8_120.toInt) (b := 0) rfl rfl c134
                    have j_157 : ∀ (s0_157 : Int32), ((s0_157.toInt = 0 ∧ l7_120.toInt = 0) ∨ (s0_157.toInt = 1)) → w_X12_findBegun_157 v_end v_mayEmpty x4 x33 Q (w_X12_findBegun_16 p2 v_sort v_value v_most v_parts v_end v_firstPart v_mayEmpty v_inCase v_partBegin v_partEnd Q x4 n_16) (w_X12_findBegun_120 v_end v_mayEmpty x4 Q (w_X12_findBegun_16 p2 v_sort v_value v_most v_parts v_end v_firstPart v_mayEmpty v_inCase v_partBegin v_partEnd Q x4 n_16) l4_16 x24 x33 v_begun_16 n_120) s0_157 l9_120 := by
                      intro s0_157 f30
                      unfold w_X12_findBegun_157
                      have j_182 : ∀ (s0_182 : Int32), ((s0_182.toInt = 0 ∧ x33.toInt = 5) ∨ (s0_182.toInt = 1)) → w_X12_findBegun_182 v_end x4 Q (w_X12_findBegun_16 p2 v_sort v_value v_most v_parts v_end v_firstPart v_mayEmpty v_inCase v_partBegin v_partEnd Q x4 n_16) (w_X12_findBegun_120 v_end v_mayEmpty x4 Q (w_X12_findBegun_16 p2 v_sort v_value v_most v_parts v_end v_firstPart v_mayEmpty v_inCase v_partBegin v_partEnd Q x4 n_16) l4_16 x24 x33 v_begun_16 n_120) s0_182 s0_157 l9_120 := by
                        intro s0_182 f31
                        unfold w_X12_findBegun_182
                        intro x191 ex191
                        have f32 : x191.toInt = x4.toInt + l9_120.toInt := i_add (a := x4.toInt) (b := l9_120.toInt) ex191 rfl rfl (by omega) (by omega)
                        refine ⟨i_in (by omega) (by omega), ?_⟩
                        intro x192 ex192
                        have f33 : x191.toInt + 1 ≤ 220 * p1.toInt + x192.toInt ∧ x192.toInt ≤ (zg v_many p1.toInt : Int) := by have h9 := zS_end (k := (-220) * p1.toInt + x191.toInt) u0 ex192 (by omega) (by omega) (by omega); omega
                        exact ih_120 s0_157 s0_182 x192 (by omega) (by omega) (by omega) (by omega) (by omega) (by omega) (by have h8_0 := i_rng l9_120; have h8_1 := i_rng x192; omega)
                      have j_177 : w_X12_findBegun_177 v_end x4 Q (w_X12_findBegun_16 p2 v_sort v_value v_most v_parts v_end v_firstPart v_mayEmpty v_inCase v_partBegin v_partEnd Q x4 n_16) (w_X12_findBegun_120 v_end v_mayEmpty x4 Q (w_X12_findBegun_16 p2 v_sort v_value v_most v_parts v_end v_firstPart v_mayEmpty v_inCase v_partBegin v_partEnd Q x4 n_16) l4_16 x24 x33 v_begun_16 n_120) s0_157 l9_120 := by
                        unfold w_X12_findBegun_177
                        exact j_182 1 (by omega)
                      refine ⟨fun c162 => ?_, fun c162 => ?_⟩
                      · have f34 : x33.toInt ≠ 5 := i_ne (a := x33.toInt) (b := 5) rfl rfl c162
                        exact j_177  
                      · have f35 : x33.toInt = 5 := i_eq (a := x33.toInt) (b := 5) rfl rfl c162
                        intro x172 ex172
                        have f36 : x172.toInt = x4.toInt + l9_120.toInt := i_add (a := x4.toInt) (b := l9_120.toInt) ex172 rfl rfl (by omega) (by omega)
                        refine ⟨i_in (by omega) (by omega), ?_⟩
                        intro x173 ex173
                        have f37 : (0 ≤ x173.toInt ∧ x173.toInt ≤ 1) := i_bz ex173
                        refine ⟨fun c174 => ?_, fun c174 => ?_⟩
                        · have f38 : x173.toInt = 0 := i_eq (a := x173.toInt) (b := 0) rfl rfl c174
                          exact j_182 0 (by omega)
                        · have f39 : x173.toInt ≠ 0 := i_ne (a := x173.toInt) (b := 0) rfl rfl c174
                          exact j_177  
                    have j_152 : w_X12_findBegun_152 v_end v_mayEmpty x4 x33 Q (w_X12_findBegun_16 p2 v_sort v_value v_most v_parts v_end v_firstPart v_mayEmpty v_inCase v_partBegin v_partEnd Q x4 n_16) (w_X12_findBegun_120 v_end v_mayEmpty x4 Q (w_X12_findBegun_16 p2 v_sort v_value v_most v_parts v_end v_firstPart v_mayEmpty v_inCase v_partBegin v_partEnd Q x4 n_16) l4_16 x24 x33 v_begun_16 n_120) l9_120 := by
                      unfold w_X12_findBegun_152
                      exact j_157 1 (by omega)
                    refine ⟨fun c139 => ?_, fun c139 => ?_⟩
                    · have f40 : l7_120.toInt ≠ 0 := i_ne (a := l7_120.toInt) (b := 0) rfl rfl c139
                      exact j_152  
                    · have f41 : l7_120.toInt = 0 := i_eq (a := l7_120.toInt) (b := 0) rfl rfl c139
                      refine ⟨i_in (by omega) (by omega), ?_⟩
                      intro x148 ex148
                      have f42 : (0 ≤ x148.toInt ∧ x148.toInt ≤ 1) := i_bz ex148
                      refine ⟨fun c149 => ?_, fun c149 => ?_⟩
                      · have f43 : x148.toInt = 0 := i_eq (a := x148.toInt) (b := 0) rfl rfl c149
                        exact j_157 0 (by omega)
                      · have f44 : x148.toInt ≠ 0 := i_ne (a := x148.toInt) (b := 0) rfl rfl c149
                        exact j_152  
            exact ⟨((-1) * x117.toInt + 2147483648).toNat + 1, j_120   (((-1) * x117.toInt + 2147483648).toNat + 1) s0_63 s0_112 x117 (by omega) (by omega) (by omega) (by omega) (by omega) (by omega) (by omega)⟩
          have j_111 : w_X12_findBegun_111 v_end v_mayEmpty x4 Q (w_X12_findBegun_16 p2 v_sort v_value v_most v_parts v_end v_firstPart v_mayEmpty v_inCase v_partBegin v_partEnd Q x4 n_16) l4_16 x24 x33 s0_63 v_begun_16 := by
            unfold w_X12_findBegun_111
            exact j_112 0 (by omega)
          refine ⟨fun c68 => ?_, fun c68 => ?_⟩
          · have f45 : x33.toInt ≤ 2 := i_le (a := x33.toInt) (b := 2) rfl rfl c68
            exact j_111  
          · have f46 : 2 < x33.toInt := i_nle (a := x33.toInt) (b := 2) rfl rfl c68
            refine ⟨fun c74 => ?_, fun c74 => ?_⟩
            · have f47 : x33.toInt = 3 := i_eq (a := x33.toInt) (b := 3) rfl rfl c74
              exact j_111  
            · have f48 : x33.toInt ≠ 3 := i_ne (a := x33.toInt) (b := 3) rfl rfl c74
              refine ⟨fun c80 => ?_, fun c80 => ?_⟩
              · have f49 : x33.toInt = 4 := i_eq (a := x33.toInt) (b := 4) rfl rfl c80
                exact j_111  
              · have f50 : x33.toInt ≠ 4 := i_ne (a := x33.toInt) (b := 4) rfl rfl c80
                refine ⟨fun c87 => ?_, fun c87 => ?_⟩
                · have f51 : x33.toInt = 9 := i_eq (a := x33.toInt) (b := 9) rfl rfl c87
                  exact j_111  
                · have f52 : x33.toInt ≠ 9 := i_ne (a := x33.toInt) (b := 9) rfl rfl c87
                  have j_107 : w_X12_findBegun_107 v_end v_mayEmpty x4 Q (w_X12_findBegun_16 p2 v_sort v_value v_most v_parts v_end v_firstPart v_mayEmpty v_inCase v_partBegin v_partEnd Q x4 n_16) l4_16 x24 x33 s0_63 v_begun_16 := by
                    unfold w_X12_findBegun_107
                    exact j_112 1 (by omega)
                  refine ⟨fun c94 => ?_, fun c94 => ?_⟩
                  · have f53 : x33.toInt ≠ 7 := i_ne (a := x33.toInt) (b := 7) rfl rfl c94
                    exact j_107  
                  · have f54 : x33.toInt = 7 := i_eq (a := x33.toInt) (b := 7) rfl rfl c94
                    refine ⟨i_in (by omega) (by omega), ?_⟩
                    intro x103 ex103
                    have f55 : 0 ≤ x103.toInt + 1 ∧ x103.toInt ≤ 20 := by have h9 := zS_most (k := (-220) * p1.toInt + x24.toInt) u0 ex103 (by omega) (by omega) (by omega); omega
                    refine ⟨fun c104 => ?_, fun c104 => ?_⟩
                    · have f56 : x103.toInt = 0 := i_eq (a := x103.toInt) (b := 0) rfl rfl c104
                      exact j_111  
                    · have f57 : x103.toInt ≠ 0 := i_ne (a := x103.toInt) (b := 0) rfl rfl c104
                      exact j_107  
        have j_58 : ((x33.toInt = 4) ∨ (x33.toInt ≤ 2)) → w_X12_findBegun_58 v_most v_end v_mayEmpty x4 Q (w_X12_findBegun_16 p2 v_sort v_value v_most v_parts v_end v_firstPart v_mayEmpty v_inCase v_partBegin v_partEnd Q x4 n_16) l4_16 x24 x33 v_begun_16 := by
          intro f58
          unfold w_X12_findBegun_58
          exact j_63 1 (by omega)
        refine ⟨fun c39 => ?_, fun c39 => ?_⟩
        · have f59 : x33.toInt = 4 := i_eq (a := x33.toInt) (b := 4) rfl rfl c39
          exact j_58  (by omega)
        · have f60 : x33.toInt ≠ 4 := i_ne (a := x33.toInt) (b := 4) rfl rfl c39
          have j_62 : ((3 ≤ x33.toInt) ∨ (x33.toInt ≤ 2)) → w_X12_findBegun_62 v_most v_end v_mayEmpty x4 Q (w_X12_findBegun_16 p2 v_sort v_value v_most v_parts v_end v_firstPart v_mayEmpty v_inCase v_partBegin v_partEnd Q x4 n_16) l4_16 x24 x33 v_begun_16 := by
            intro f61
            unfold w_X12_findBegun_62
            exact j_63 0 (by omega)
          refine ⟨fun c45 => ?_, fun c45 => ?_⟩
          · have f62 : 2 < x33.toInt := i_lt (a := 2) (b := x33.toInt) rfl rfl c45
            exact j_62  (by omega)
          · have f63 : x33.toInt ≤ 2 := i_nlt (a := 2) (b := x33.toInt) rfl rfl c45
            refine ok_X12_takes (v_least := v_least) (v_most := v_most) (v_holder := v_holder) (v_end := v_end) (gb9 := (220 * p1.toInt)) (gq9 := (420 * p1.toInt)) (gn9 := (zg v_many p1.toInt)) (gc9 := (zg v_captures p1.toInt)) (by omega) (by omega) (by exact u0) (by first | assumption | omega) (by first | assumption | omega) (by first | assumption | omega) (by first | assumption | omega) (by have h8 := zg_at ex33; omega) (by have h8 := zg_at ex33; omega) (fun r52 f64 f65 => ?_)
            refine ⟨fun c55 => ?_, fun c55 => ?_⟩
            · have f66 : r52.toInt = 0 := i_eq (a := r52.toInt) (b := 0) rfl rfl c55
              exact j_62  (by omega)
            · have f67 : r52.toInt ≠ 0 := i_ne (a := r52.toInt) (b := 0) rfl rfl c55
              exact j_58  (by omega)
  exact ⟨(x13.toInt + 2147483649).toNat + 1, j_16   ((x13.toInt + 2147483649).toNat + 1) x13 v_begun (by omega) (by omega) (by omega)⟩
set_option maxHeartbeats 4000000 in
theorem ok_X12_begins {p1 : Int32} {p2 : Int32} {v_finding : Int32} {v_isThere : Nat → Bool} {v_many : Nat → Int32} {v_sort : Nat → Int32} {v_value : Nat → Int32} {v_most : Nat → Int32} {v_parts : Nat → Int32} {v_end : Nat → Int32} {v_firstPart : Nat → Int32} {v_mayEmpty : Nat → Bool} {v_inCase : Nat → Bool} {v_partBegin : Nat → Int32} {v_partEnd : Nat → Int32} {v_begun : Nat → Bool} {v_captures : Nat → Int32} {v_least : Nat → Int32} {v_holder : Nat → Int32} {v_size : Nat → Int32} {v_positions : Nat → Int32} {Q : Int32 → Int32 → Int32 → (Nat → Bool) → Prop} (u0 : zAll v_isThere v_many v_captures v_sort v_value v_least v_most v_holder v_parts v_end v_firstPart v_partBegin v_partEnd v_size v_positions) (hq : ∀ (r : Int32) (ov_thrown : Int32) (ov_finding : Int32) (ov_begun : Nat → Bool), ov_thrown.toInt = 0 → 0 ≤ r.toInt + 4 → r.toInt ≤ 1 → Q r ov_thrown ov_finding ov_begun) : w_X12_begins p1 p2 v_finding v_isThere v_many v_sort v_value v_most v_parts v_end v_firstPart v_mayEmpty v_inCase v_partBegin v_partEnd v_begun Q := by
  have q_t : (bz true).toInt = 1 := rfl
  have q_f : (bz false).toInt = 0 := rfl
  have q_m4 : ((-4) : Int32).toInt = (-4) := rfl
  have q_m2 : ((-2) : Int32).toInt = (-2) := rfl
  have q_0 : (0 : Int32).toInt = 0 := rfl
  have q_1 : (1 : Int32).toInt = 1 := rfl
  have q_65535 : (65535 : Int32).toInt = 65535 := rfl
  unfold w_X12_begins
  refine ok_X12_wrongSlot  (fun r7 r7_0 f1 f2 f3 u7_0 => ?_)
  refine ⟨fun c10 => ?_, fun c10 => ?_⟩
  · have f4 : r7.toInt = 0 := i_eq (a := r7.toInt) (b := 0) rfl rfl c10
    have hSM := zAll_s u0 (u7_0 (by omega)) (by omega) (by omega)
    have hS := hSM.1
    have hM := hSM.2
    have f5 : 1 ≤ (zg v_many p1.toInt : Int) := (zS_n hS).1
    have f6 : (zg v_many p1.toInt : Int) ≤ 220 := (zS_n hS).2
    have f7 : 0 ≤ (zg v_captures p1.toInt : Int) := (zS_c hS).1
    have f8 : (zg v_captures p1.toInt : Int) ≤ 9 := (zS_c hS).2
    refine ok_X12_in  (fun r21 f9 f10 f11 f12 f13 f14 => ?_)
    refine ⟨fun c24 => ?_, fun c24 => ?_⟩
    · have f15 : r21.toInt ≠ 0 := i_ne (a := r21.toInt) (b := 0) rfl rfl c24
      refine ok_X12_findBegun (v_least := v_least) (v_holder := v_holder) (v_captures := v_captures) (by omega) (by omega) (by omega) (by omega) (by exact hS) (fun r33_0 => ?_)
      intro x41 ex41
      have f16 : (0 ≤ x41.toInt ∧ x41.toInt ≤ 1) := i_bz ex41
      have j_50 : ∀ (s0_50 : Int32), ((s0_50.toInt = 0 ∧ x41.toInt = 0) ∨ (s0_50.toInt = 1)) → w_X12_begins_50 Q s0_50 0 r7_0 r33_0 := by
        intro s0_50 f17
        unfold w_X12_begins_50
        exact hq s0_50 0 r7_0 r33_0 (by omega) (by omega) (by omega)
      refine ⟨fun c42 => ?_, fun c42 => ?_⟩
      · have f18 : x41.toInt = 0 := i_eq (a := x41.toInt) (b := 0) rfl rfl c42
        exact j_50 0 (by omega)
      · have f19 : x41.toInt ≠ 0 := i_ne (a := x41.toInt) (b := 0) rfl rfl c42
        exact j_50 1 (by omega)
    · have f20 : r21.toInt = 0 := i_eq (a := r21.toInt) (b := 0) rfl rfl c24
      exact hq (-4) 0 r7_0 v_begun (by omega) (by omega) (by omega)
  · have f21 : r7.toInt ≠ 0 := i_ne (a := r7.toInt) (b := 0) rfl rfl c10
    exact hq (-2) 0 r7_0 v_begun (by omega) (by omega) (by omega)
