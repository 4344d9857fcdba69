set_option maxHeartbeats 4000000 in
theorem ok_X11_isSmall {p0 : Int32} {Q : Int32 → Prop} (hq : ∀ (r : Int32), ((r.toInt = 1 ∧ 97 ≤ p0.toInt ∧ p0.toInt ≤ 122) ∨ (r.toInt = 0)) → Q r) : w_X11_isSmall p0 Q := by
  have q_t : (bz true).toInt = 1 := rfl
  have q_f : (bz false).toInt = 0 := rfl
  have q_0 : (0 : Int32).toInt = 0 := rfl
  have q_1 : (1 : Int32).toInt = 1 := rfl
  unfold w_X11_isSmall
  have j_17 : ∀ (s0_17 : Int32), ((s0_17.toInt = 1 ∧ 97 ≤ p0.toInt ∧ p0.toInt ≤ 122) ∨ (s0_17.toInt = 0)) → w_X11_isSmall_17 Q s0_17 := by
    intro s0_17 f1
    unfold w_X11_isSmall_17
    refine ⟨i_01 (by omega) (by omega), ?_⟩
    exact hq s0_17 (by omega)
  have j_16 : ((p0.toInt ≤ 96) ∨ (97 ≤ p0.toInt ∧ 123 ≤ p0.toInt)) → w_X11_isSmall_16 Q := by
    intro f2
    unfold w_X11_isSmall_16
    exact j_17 0 (by omega)
  refine ⟨fun c3 => ?_, fun c3 => ?_⟩
  · have f3 : p0.toInt < 97 := i_lt (a := p0.toInt) (b := 97) rfl rfl c3
    exact j_16  (by omega)
  · have f4 : 97 ≤ p0.toInt := i_nlt (a := p0.toInt) (b := 97) rfl rfl c3
    refine ⟨fun c9 => ?_, fun c9 => ?_⟩
    · have f5 : 122 < p0.toInt := i_lt (a := 122) (b := p0.toInt) rfl rfl c9
      exact j_16  (by omega)
    · have f6 : p0.toInt ≤ 122 := i_nlt (a := 122) (b := p0.toInt) rfl rfl c9
      exact j_17 1 (by omega)
set_option maxHeartbeats 4000000 in
theorem ok_X11_named {p1 : Int32} {p2 : Int32} {v_latestFinding : Int32} {v_patterns : Nat → Option Nat} {v_patterns_p1_there : Bool} {v_patterns_p1_count : Int32} {v_patterns_p1_sort : Nat → Int32} {v_patterns_p1_value : Nat → Int32} {v_patterns_p1_low : Nat → Int32} {h2 : Nat} {Q : Int32 → Int32 → Prop} (a0 : 0 ≤ v_patterns_p1_count.toInt) (a1 : v_patterns_p1_count.toInt ≤ 256) (v0 : 0 ≤ p1.toInt → p1.toInt < 6 → v_patterns p1.toNatClampNeg = some h2) (hq : ∀ (r : Int32) (ov_latestFinding : Int32), Q r ov_latestFinding) : w_X11_named p1 p2 v_latestFinding v_patterns v_patterns_p1_there v_patterns_p1_count v_patterns_p1_sort v_patterns_p1_value v_patterns_p1_low h2 Q := by
  have q_t : (bz true).toInt = 1 := rfl
  have q_f : (bz false).toInt = 0 := rfl
  have q_m4 : ((-4) : Int32).toInt = (-4) := rfl
  have q_m2 : ((-2) : Int32).toInt = (-2) := rfl
  unfold w_X11_named
  refine ok_X11_patternIn v0 (fun r2 r2_0 f1 f2 => ?_)
  refine ⟨fun c2 => ?_, fun c2 => ?_⟩
  · have f3 : r2.toInt = 0 := i_eq (a := r2.toInt) (b := 0) rfl rfl c2
    exact hq (-2) r2_0 
  · have f4 : r2.toInt ≠ 0 := i_ne (a := r2.toInt) (b := 0) rfl rfl c2
    refine ok_X11_isSmall  (fun r200014 f5 => ?_)
    have j_200030 : ∀ (s0_200030 : Int32), w_X11_named_200030 Q s0_200030 r2_0 := by
      intro s0_200030
      unfold w_X11_named_200030
      exact hq s0_200030 r2_0 
    refine ⟨fun c200017 => ?_, fun c200017 => ?_⟩
    · have f6 : r200014.toInt = 0 := i_eq (a := r200014.toInt) (b := 0) rfl rfl c200017
      exact j_200030 (-4) 
    · have f7 : r200014.toInt ≠ 0 := i_ne (a := r200014.toInt) (b := 0) rfl rfl c200017
      refine ok_X10_captureNamed (by omega) (by omega) (fun r200022 => ?_)
      exact j_200030 r200022 
set_option maxHeartbeats 4000000 in
theorem ok_X11_areThere {p1 : Int32} {v_latestFinding : Int32} {v_patterns : Nat → Option Nat} {v_patterns_0_there : Bool} {v_patterns_1_there : Bool} {v_patterns_2_there : Bool} {v_patterns_3_there : Bool} {v_patterns_4_there : Bool} {v_patterns_5_there : Bool} {h2 : Nat} {h3 : Nat} {h4 : Nat} {h5 : Nat} {h6 : Nat} {h7 : Nat} {Q : Int32 → Int32 → Prop} (v0 : 0 ≤ (5 : Int32).toInt → (5 : Int32).toInt < 6 → v_patterns (5 : Int32).toNatClampNeg = some h7) (v1 : 0 ≤ (4 : Int32).toInt → (4 : Int32).toInt < 6 → v_patterns (4 : Int32).toNatClampNeg = some h6) (v2 : 0 ≤ (3 : Int32).toInt → (3 : Int32).toInt < 6 → v_patterns (3 : Int32).toNatClampNeg = some h5) (v3 : 0 ≤ (2 : Int32).toInt → (2 : Int32).toInt < 6 → v_patterns (2 : Int32).toNatClampNeg = some h4) (v4 : 0 ≤ (1 : Int32).toInt → (1 : Int32).toInt < 6 → v_patterns (1 : Int32).toNatClampNeg = some h3) (v5 : 0 ≤ (0 : Int32).toInt → (0 : Int32).toInt < 6 → v_patterns (0 : Int32).toNatClampNeg = some h2) (hq : ∀ (r : Int32) (ov_latestFinding : Int32), ((r.toInt = 1 ∧ ov_latestFinding.toInt = v_latestFinding.toInt) ∨ (r.toInt = 0) ∨ (r.toInt = 1)) → Q r ov_latestFinding) : w_X11_areThere p1 v_latestFinding v_patterns v_patterns_0_there v_patterns_1_there v_patterns_2_there v_patterns_3_there v_patterns_4_there v_patterns_5_there h2 h3 h4 h5 h6 h7 Q := by
  have q_t : (bz true).toInt = 1 := rfl
  have q_f : (bz false).toInt = 0 := rfl
  have q_0 : (0 : Int32).toInt = 0 := rfl
  have q_1 : (1 : Int32).toInt = 1 := rfl
  have q_2 : (2 : Int32).toInt = 2 := rfl
  have q_3 : (3 : Int32).toInt = 3 := rfl
  have q_4 : (4 : Int32).toInt = 4 := rfl
  have q_5 : (5 : Int32).toInt = 5 := rfl
  have q_6 : (6 : Int32).toInt = 6 := rfl
  unfold w_X11_areThere
  refine ok_X11_isTold  (fun r100010 f1 f2 => ?_)
  have j_1300021 : ∀ (v_latestFinding_1300021 : Int32), w_X11_areThere_1300021 Q v_latestFinding_1300021 := by
    intro v_latestFinding_1300021
    unfold w_X11_areThere_1300021
    exact hq 0 v_latestFinding_1300021 (by omega)
  have j_1200026 : ∀ (v_latestFinding_1200026 : Int32), w_X11_areThere_1200026 Q v_latestFinding_1200026 := by
    intro v_latestFinding_1200026
    unfold w_X11_areThere_1200026
    exact hq 1 v_latestFinding_1200026 (by omega)
  have j_1200021 : ∀ (v_latestFinding_1200021 : Int32), w_X11_areThere_1200021 Q v_latestFinding_1200021 := by
    intro v_latestFinding_1200021
    unfold w_X11_areThere_1200021
    exact j_1200026 v_latestFinding_1200021 
  have j_1100021 : ∀ (v_latestFinding_1100021 : Int32), w_X11_areThere_1100021 Q v_latestFinding_1100021 := by
    intro v_latestFinding_1100021
    unfold w_X11_areThere_1100021
    exact hq 0 v_latestFinding_1100021 (by omega)
  have j_1000026 : ∀ (v_latestFinding_1000026 : Int32), w_X11_areThere_1000026 p1 v_patterns v_patterns_5_there h7 Q v_latestFinding_1000026 := by
    intro v_latestFinding_1000026
    unfold w_X11_areThere_1000026
    refine ok_X11_isTold  (fun r1200010 f3 f4 => ?_)
    refine ⟨fun c1200013 => ?_, fun c1200013 => ?_⟩
    · have f5 : r1200010.toInt = 0 := i_eq (a := r1200010.toInt) (b := 0) rfl rfl c1200013
      exact j_1200026 v_latestFinding_1000026 
    · have f6 : r1200010.toInt ≠ 0 := i_ne (a := r1200010.toInt) (b := 0) rfl rfl c1200013
      refine ok_X11_patternIn v0 (fun r1200018 r1200018_0 f7 f8 => ?_)
      refine ⟨fun c1200018 => ?_, fun c1200018 => ?_⟩
      · have f9 : r1200018.toInt = 0 := i_eq (a := r1200018.toInt) (b := 0) rfl rfl c1200018
        exact j_1300021 r1200018_0 
      · have f10 : r1200018.toInt ≠ 0 := i_ne (a := r1200018.toInt) (b := 0) rfl rfl c1200018
        exact j_1200021 r1200018_0 
  have j_1000021 : ∀ (v_latestFinding_1000021 : Int32), w_X11_areThere_1000021 p1 v_patterns v_patterns_5_there h7 Q v_latestFinding_1000021 := by
    intro v_latestFinding_1000021
    unfold w_X11_areThere_1000021
    exact j_1000026 v_latestFinding_1000021 
  have j_900021 : ∀ (v_latestFinding_900021 : Int32), w_X11_areThere_900021 Q v_latestFinding_900021 := by
    intro v_latestFinding_900021
    unfold w_X11_areThere_900021
    exact hq 0 v_latestFinding_900021 (by omega)
  have j_800026 : ∀ (v_latestFinding_800026 : Int32), w_X11_areThere_800026 p1 v_patterns v_patterns_4_there v_patterns_5_there h6 h7 Q v_latestFinding_800026 := by
    intro v_latestFinding_800026
    unfold w_X11_areThere_800026
    refine ok_X11_isTold  (fun r1000010 f11 f12 => ?_)
    refine ⟨fun c1000013 => ?_, fun c1000013 => ?_⟩
    · have f13 : r1000010.toInt = 0 := i_eq (a := r1000010.toInt) (b := 0) rfl rfl c1000013
      exact j_1000026 v_latestFinding_800026 
    · have f14 : r1000010.toInt ≠ 0 := i_ne (a := r1000010.toInt) (b := 0) rfl rfl c1000013
      refine ok_X11_patternIn v1 (fun r1000018 r1000018_0 f15 f16 => ?_)
      refine ⟨fun c1000018 => ?_, fun c1000018 => ?_⟩
      · have f17 : r1000018.toInt = 0 := i_eq (a := r1000018.toInt) (b := 0) rfl rfl c1000018
        exact j_1100021 r1000018_0 
      · have f18 : r1000018.toInt ≠ 0 := i_ne (a := r1000018.toInt) (b := 0) rfl rfl c1000018
        exact j_1000021 r1000018_0 
  have j_800021 : ∀ (v_latestFinding_800021 : Int32), w_X11_areThere_800021 p1 v_patterns v_patterns_4_there v_patterns_5_there h6 h7 Q v_latestFinding_800021 := by
    intro v_latestFinding_800021
    unfold w_X11_areThere_800021
    exact j_800026 v_latestFinding_800021 
  have j_700021 : ∀ (v_latestFinding_700021 : Int32), w_X11_areThere_700021 Q v_latestFinding_700021 := by
    intro v_latestFinding_700021
    unfold w_X11_areThere_700021
    exact hq 0 v_latestFinding_700021 (by omega)
  have j_600026 : ∀ (v_latestFinding_600026 : Int32), w_X11_areThere_600026 p1 v_patterns v_patterns_3_there v_patterns_4_there v_patterns_5_there h5 h6 h7 Q v_latestFinding_600026 := by
    intro v_latestFinding_600026
    unfold w_X11_areThere_600026
    refine ok_X11_isTold  (fun r800010 f19 f20 => ?_)
    refine ⟨fun c800013 => ?_, fun c800013 => ?_⟩
    · have f21 : r800010.toInt = 0 := i_eq (a := r800010.toInt) (b := 0) rfl rfl c800013
      exact j_800026 v_latestFinding_600026 
    · have f22 : r800010.toInt ≠ 0 := i_ne (a := r800010.toInt) (b := 0) rfl rfl c800013
      refine ok_X11_patternIn v2 (fun r800018 r800018_0 f23 f24 => ?_)
      refine ⟨fun c800018 => ?_, fun c800018 => ?_⟩
      · have f25 : r800018.toInt = 0 := i_eq (a := r800018.toInt) (b := 0) rfl rfl c800018
        exact j_900021 r800018_0 
      · have f26 : r800018.toInt ≠ 0 := i_ne (a := r800018.toInt) (b := 0) rfl rfl c800018
        exact j_800021 r800018_0 
  have j_600021 : ∀ (v_latestFinding_600021 : Int32), w_X11_areThere_600021 p1 v_patterns v_patterns_3_there v_patterns_4_there v_patterns_5_there h5 h6 h7 Q v_latestFinding_600021 := by
    intro v_latestFinding_600021
    unfold w_X11_areThere_600021
    exact j_600026 v_latestFinding_600021 
  have j_500021 : ∀ (v_latestFinding_500021 : Int32), w_X11_areThere_500021 Q v_latestFinding_500021 := by
    intro v_latestFinding_500021
    unfold w_X11_areThere_500021
    exact hq 0 v_latestFinding_500021 (by omega)
  have j_400026 : ∀ (v_latestFinding_400026 : Int32), w_X11_areThere_400026 p1 v_patterns v_patterns_2_there v_patterns_3_there v_patterns_4_there v_patterns_5_there h4 h5 h6 h7 Q v_latestFinding_400026 := by
    intro v_latestFinding_400026
    unfold w_X11_areThere_400026
    refine ok_X11_isTold  (fun r600010 f27 f28 => ?_)
    refine ⟨fun c600013 => ?_, fun c600013 => ?_⟩
    · have f29 : r600010.toInt = 0 := i_eq (a := r600010.toInt) (b := 0) rfl rfl c600013
      exact j_600026 v_latestFinding_400026 
    · have f30 : r600010.toInt ≠ 0 := i_ne (a := r600010.toInt) (b := 0) rfl rfl c600013
      refine ok_X11_patternIn v3 (fun r600018 r600018_0 f31 f32 => ?_)
      refine ⟨fun c600018 => ?_, fun c600018 => ?_⟩
      · have f33 : r600018.toInt = 0 := i_eq (a := r600018.toInt) (b := 0) rfl rfl c600018
        exact j_700021 r600018_0 
      · have f34 : r600018.toInt ≠ 0 := i_ne (a := r600018.toInt) (b := 0) rfl rfl c600018
        exact j_600021 r600018_0 
  have j_400021 : ∀ (v_latestFinding_400021 : Int32), w_X11_areThere_400021 p1 v_patterns v_patterns_2_there v_patterns_3_there v_patterns_4_there v_patterns_5_there h4 h5 h6 h7 Q v_latestFinding_400021 := by
    intro v_latestFinding_400021
    unfold w_X11_areThere_400021
    exact j_400026 v_latestFinding_400021 
  refine ⟨fun c100013 => ?_, fun c100013 => ?_⟩
  · have f35 : r100010.toInt = 0 := i_eq (a := r100010.toInt) (b := 0) rfl rfl c100013
    refine ok_X11_isTold  (fun r1500010 f36 f37 => ?_)
    refine ⟨fun c1500013 => ?_, fun c1500013 => ?_⟩
    · have f38 : r1500010.toInt = 0 := i_eq (a := r1500010.toInt) (b := 0) rfl rfl c1500013
      refine ok_X11_isTold  (fun r1600010 f39 f40 => ?_)
      refine ⟨fun c1600013 => ?_, fun c1600013 => ?_⟩
      · have f41 : r1600010.toInt = 0 := i_eq (a := r1600010.toInt) (b := 0) rfl rfl c1600013
        refine ok_X11_isTold  (fun r1700010 f42 f43 => ?_)
        refine ⟨fun c1700013 => ?_, fun c1700013 => ?_⟩
        · have f44 : r1700010.toInt = 0 := i_eq (a := r1700010.toInt) (b := 0) rfl rfl c1700013
          refine ok_X11_isTold  (fun r1800010 f45 f46 => ?_)
          refine ⟨fun c1800013 => ?_, fun c1800013 => ?_⟩
          · have f47 : r1800010.toInt = 0 := i_eq (a := r1800010.toInt) (b := 0) rfl rfl c1800013
            refine ok_X11_isTold  (fun r1900010 f48 f49 => ?_)
            refine ⟨fun c1900013 => ?_, fun c1900013 => ?_⟩
            · have f50 : r1900010.toInt = 0 := i_eq (a := r1900010.toInt) (b := 0) rfl rfl c1900013
              exact hq 1 v_latestFinding (by omega)
            · have f51 : r1900010.toInt ≠ 0 := i_ne (a := r1900010.toInt) (b := 0) rfl rfl c1900013
              refine ok_X11_patternIn v0 (fun r1900018 r1900018_0 f52 f53 => ?_)
              refine ⟨fun c1900018 => ?_, fun c1900018 => ?_⟩
              · have f54 : r1900018.toInt = 0 := i_eq (a := r1900018.toInt) (b := 0) rfl rfl c1900018
                exact j_1300021 r1900018_0 
              · have f55 : r1900018.toInt ≠ 0 := i_ne (a := r1900018.toInt) (b := 0) rfl rfl c1900018
                exact j_1200021 r1900018_0 
          · have f56 : r1800010.toInt ≠ 0 := i_ne (a := r1800010.toInt) (b := 0) rfl rfl c1800013
            refine ok_X11_patternIn v1 (fun r1800018 r1800018_0 f57 f58 => ?_)
            refine ⟨fun c1800018 => ?_, fun c1800018 => ?_⟩
            · have f59 : r1800018.toInt = 0 := i_eq (a := r1800018.toInt) (b := 0) rfl rfl c1800018
              exact j_1100021 r1800018_0 
            · have f60 : r1800018.toInt ≠ 0 := i_ne (a := r1800018.toInt) (b := 0) rfl rfl c1800018
              exact j_1000021 r1800018_0 
        · have f61 : r1700010.toInt ≠ 0 := i_ne (a := r1700010.toInt) (b := 0) rfl rfl c1700013
          refine ok_X11_patternIn v2 (fun r1700018 r1700018_0 f62 f63 => ?_)
          refine ⟨fun c1700018 => ?_, fun c1700018 => ?_⟩
          · have f64 : r1700018.toInt = 0 := i_eq (a := r1700018.toInt) (b := 0) rfl rfl c1700018
            exact j_900021 r1700018_0 
          · have f65 : r1700018.toInt ≠ 0 := i_ne (a := r1700018.toInt) (b := 0) rfl rfl c1700018
            exact j_800021 r1700018_0 
      · have f66 : r1600010.toInt ≠ 0 := i_ne (a := r1600010.toInt) (b := 0) rfl rfl c1600013
        refine ok_X11_patternIn v3 (fun r1600018 r1600018_0 f67 f68 => ?_)
        refine ⟨fun c1600018 => ?_, fun c1600018 => ?_⟩
        · have f69 : r1600018.toInt = 0 := i_eq (a := r1600018.toInt) (b := 0) rfl rfl c1600018
          exact j_700021 r1600018_0 
        · have f70 : r1600018.toInt ≠ 0 := i_ne (a := r1600018.toInt) (b := 0) rfl rfl c1600018
          exact j_600021 r1600018_0 
    · have f71 : r1500010.toInt ≠ 0 := i_ne (a := r1500010.toInt) (b := 0) rfl rfl c1500013
      refine ok_X11_patternIn v4 (fun r1500018 r1500018_0 f72 f73 => ?_)
      refine ⟨fun c1500018 => ?_, fun c1500018 => ?_⟩
      · have f74 : r1500018.toInt = 0 := i_eq (a := r1500018.toInt) (b := 0) rfl rfl c1500018
        exact j_500021 r1500018_0 
      · have f75 : r1500018.toInt ≠ 0 := i_ne (a := r1500018.toInt) (b := 0) rfl rfl c1500018
        exact j_400021 r1500018_0 
  · have f76 : r100010.toInt ≠ 0 := i_ne (a := r100010.toInt) (b := 0) rfl rfl c100013
    refine ok_X11_patternIn v5 (fun r100018 r100018_0 f77 f78 => ?_)
    refine ⟨fun c100018 => ?_, fun c100018 => ?_⟩
    · have f79 : r100018.toInt = 0 := i_eq (a := r100018.toInt) (b := 0) rfl rfl c100018
      exact hq 0 r100018_0 (by omega)
    · have f80 : r100018.toInt ≠ 0 := i_ne (a := r100018.toInt) (b := 0) rfl rfl c100018
      refine ok_X11_isTold  (fun r400010 f81 f82 => ?_)
      refine ⟨fun c400013 => ?_, fun c400013 => ?_⟩
      · have f83 : r400010.toInt = 0 := i_eq (a := r400010.toInt) (b := 0) rfl rfl c400013
        exact j_400026 r100018_0 
      · have f84 : r400010.toInt ≠ 0 := i_ne (a := r400010.toInt) (b := 0) rfl rfl c400013
        refine ok_X11_patternIn v4 (fun r400018 r400018_0 f85 f86 => ?_)
        refine ⟨fun c400018 => ?_, fun c400018 => ?_⟩
        · have f87 : r400018.toInt = 0 := i_eq (a := r400018.toInt) (b := 0) rfl rfl c400018
          exact j_500021 r400018_0 
        · have f88 : r400018.toInt ≠ 0 := i_ne (a := r400018.toInt) (b := 0) rfl rfl c400018
          exact j_400021 r400018_0 
set_option maxHeartbeats 4000000 in
theorem ok_X0_gather_v1 {v_begins : Nat → Int32} {a1_count : Int32} {a1_ranges : Int32} {a1_sort : Nat → Int32} {a1_parts : Nat → Int32} {a1_value : Nat → Int32} {a1_low : Nat → Int32} {a1_high : Nat → Int32} {a1_withinCase : Nat → Bool} {a1_rangeBegin : Nat → Int32} {a1_rangeEnd : Nat → Int32} {Q : Int32 → (Nat → Int32) → Prop} (a0 : 0 ≤ a1_count.toInt) (a1 : a1_count.toInt ≤ 256) (a2 : 0 ≤ a1_ranges.toInt) (a3 : a1_ranges.toInt ≤ 512) (hq : ∀ (ov_count : Int32) (ov_begins : Nat → Int32), 0 ≤ ov_count.toInt + 1 → 0 ≤ ov_count.toInt → ov_count.toInt ≤ 256 → 1 ≤ ov_count.toInt → Q ov_count ov_begins) : w_X0_gather_v1 v_begins a1_count a1_ranges a1_sort a1_parts a1_value a1_low a1_high a1_withinCase a1_rangeBegin a1_rangeEnd Q := by
  have q_t : (bz true).toInt = 1 := rfl
  have q_f : (bz false).toInt = 0 := rfl
  have q_1 : (1 : Int32).toInt = 1 := rfl
  unfold w_X0_gather_v1
  intro g11 eg11
  refine ok_X0_addTree (by omega) (by omega) (by omega) (by omega) (by omega) (by omega) (fun r14_0 r14_1 f1 f2 f3 f4 => ?_)
  exact hq r14_0 r14_1 (by omega) (by omega) (by omega) (by omega)
set_option maxHeartbeats 4000000 in
theorem ok_X11_risky {p1 : Int32} {v_latestFinding : Int32} {v_patterns : Nat → Option Nat} {v_sets_alphabet_count : Int32} {v_sets_alphabet_begins : Nat → Int32} {v_patterns_p1_there : Bool} {v_patterns_p1_count : Int32} {v_patterns_p1_ranges : Int32} {v_patterns_p1_sort : Nat → Int32} {v_patterns_p1_holder : Nat → Int32} {v_patterns_p1_end : Nat → Int32} {v_patterns_p1_parts : Nat → Int32} {v_patterns_p1_value : Nat → Int32} {v_patterns_p1_low : Nat → Int32} {v_patterns_p1_high : Nat → Int32} {v_patterns_p1_mayBeEmpty : Nat → Bool} {v_patterns_p1_withinCase : Nat → Bool} {v_patterns_p1_marked : Nat → Bool} {v_patterns_p1_rangeBegin : Nat → Int32} {v_patterns_p1_rangeEnd : Nat → Int32} {h5 : Nat} {Q : Int32 → Int32 → Int32 → (Nat → Int32) → (Nat → Bool) → Prop} (a0 : 0 ≤ v_sets_alphabet_count.toInt) (a1 : v_sets_alphabet_count.toInt ≤ 256) (a2 : 0 ≤ v_patterns_p1_count.toInt) (a3 : v_patterns_p1_count.toInt ≤ 256) (a4 : 0 ≤ v_patterns_p1_ranges.toInt) (a5 : v_patterns_p1_ranges.toInt ≤ 512) (b0 : rp (fun k v => k < v ∧ v ≤ 256) v_patterns_p1_end 0 v_patterns_p1_count.toInt) (b1 : rp (fun k v => v < k ∧ -1 ≤ v) v_patterns_p1_holder 0 v_patterns_p1_count.toInt) (v0 : 0 ≤ p1.toInt → p1.toInt < 6 → v_patterns p1.toNatClampNeg = some h5) (hq : ∀ (r : Int32) (ov_latestFinding : Int32) (ov_sets_alphabet_count : Int32) (ov_sets_alphabet_begins : Nat → Int32) (ov_patterns_p1_marked : Nat → Bool), 0 ≤ r.toInt + 2 → r.toInt ≤ 255 → 0 ≤ ov_sets_alphabet_count.toInt → ov_sets_alphabet_count.toInt ≤ 256 → Q r ov_latestFinding ov_sets_alphabet_count ov_sets_alphabet_begins ov_patterns_p1_marked) : w_X11_risky p1 v_latestFinding v_patterns v_sets_alphabet_count v_sets_alphabet_begins v_patterns_p1_there v_patterns_p1_count v_patterns_p1_ranges v_patterns_p1_sort v_patterns_p1_holder v_patterns_p1_end v_patterns_p1_parts v_patterns_p1_value v_patterns_p1_low v_patterns_p1_high v_patterns_p1_mayBeEmpty v_patterns_p1_withinCase v_patterns_p1_marked v_patterns_p1_rangeBegin v_patterns_p1_rangeEnd h5 Q := by
  have q_t : (bz true).toInt = 1 := rfl
  have q_f : (bz false).toInt = 0 := rfl
  have q_m2 : ((-2) : Int32).toInt = (-2) := rfl
  unfold w_X11_risky
  refine ok_X11_patternIn v0 (fun r2 r2_0 f501 f502 => ?_)
  refine ⟨fun c2 => ?_, fun c2 => ?_⟩
  · have f503 : r2.toInt = 0 := i_eq (a := r2.toInt) (b := 0) rfl rfl c2
    exact hq (-2) r2_0 v_sets_alphabet_count v_sets_alphabet_begins v_patterns_p1_marked (by omega) (by omega) (by omega) (by omega)
  · have f504 : r2.toInt ≠ 0 := i_ne (a := r2.toInt) (b := 0) rfl rfl c2
    refine ok_X0_gather_v1 (by omega) (by omega) (by omega) (by omega) (fun r200022_0 r200022_1 f505 f506 f507 f508 => ?_)
    refine ok_X10_firstRisky (by omega) (by omega) (by omega) (by omega) (by omega) (by omega) (rp_mono b0 (by omega) (by omega)) (rp_mono b1 (by omega) (by omega)) (fun r200033 r200033_0 f509 f510 f511 f512 => ?_)
    exact hq r200033 r2_0 r200022_0 r200022_1 r200033_0 (by omega) (by omega) (by omega) (by omega)
set_option maxHeartbeats 4000000 in
theorem ok_X5_write_v1 {v_start : Int32} {v_kinds : Nat → Int32} {v_subjects : Nat → Int32} {v_nexts : Nat → Int32} {v_others : Nat → Int32} {a1_there : Bool} {a1_count : Int32} {a1_captures : Int32} {a1_ranges : Int32} {a1_sort : Nat → Int32} {a1_end : Nat → Int32} {a1_before : Nat → Int32} {a1_last : Nat → Int32} {a1_value : Nat → Int32} {a1_low : Nat → Int32} {a1_high : Nat → Int32} {Q : Int32 → Int32 → (Nat → Int32) → (Nat → Int32) → (Nat → Int32) → (Nat → Int32) → Prop} (a0 : 0 ≤ a1_count.toInt) (a1 : a1_count.toInt ≤ 256) (a2 : 0 ≤ a1_ranges.toInt) (a3 : a1_ranges.toInt ≤ 512) (b0 : rp (fun k v => -1 ≤ v ∧ v ≤ 255) a1_last 0 a1_count.toInt) (b1 : rp (fun k v => k < v ∧ v ≤ 256) a1_end 0 a1_count.toInt) (b2 : rp (fun k v => v < k ∧ -1 ≤ v) a1_before 0 a1_count.toInt) (hq : ∀ (ov_start : Int32) (ov_count : Int32) (ov_kinds : Nat → Int32) (ov_subjects : Nat → Int32) (ov_nexts : Nat → Int32) (ov_others : Nat → Int32), 0 ≤ ov_count.toInt → ov_count.toInt ≤ 512 → Q ov_start ov_count ov_kinds ov_subjects ov_nexts ov_others) : w_X5_write_v1 v_start v_kinds v_subjects v_nexts v_others a1_there a1_count a1_captures a1_ranges a1_sort a1_end a1_before a1_last a1_value a1_low a1_high Q := by
  have q_t : (bz true).toInt = 1 := rfl
  have q_f : (bz false).toInt = 0 := rfl
  have q_m1 : ((-1) : Int32).toInt = (-1) := rfl
  have q_0 : (0 : Int32).toInt = 0 := rfl
  have q_6 : (6 : Int32).toInt = 6 := rfl
  unfold w_X5_write_v1
  refine ok_X5_add (by omega) (by omega) (fun r100019 r100019_0 r100019_1 r100019_2 r100019_3 r100019_4 f1 f2 => ?_)
  refine ok_X5_build (by omega) (by omega) (by omega) (by omega) (by omega) (by omega) (by omega) (by omega) (rp_mono b0 (by omega) (by omega)) (rp_mono b1 (by omega) (by omega)) (rp_mono b2 (by omega) (by omega)) (fun r100024 r100024_0 r100024_1 r100024_2 r100024_3 r100024_4 f3 f4 => ?_)
  exact hq r100024 r100024_0 r100024_1 r100024_2 r100024_3 r100024_4 (by omega) (by omega)
set_option maxHeartbeats 4000000 in
theorem ok_X9_make_v1 {a2_count : Int32} {a2_begins : Nat → Int32} {v_count : Int32} {v_stamp : Int32} {v_stackCount : Int32} {v_program_start : Int32} {v_program_kinds : Nat → Int32} {v_program_subjects : Nat → Int32} {v_program_nexts : Nat → Int32} {v_program_others : Nat → Int32} {v_positionOf : Nat → Int32} {v_pcOf : Nat → Int32} {v_follow : Nat → Int64} {v_takers : Nat → Int64} {v_seen : Nat → Int32} {v_stack : Nat → Int32} {v_states : Nat → Int64} {v_ahead : Nat → Int64} {v_goes : Nat → Int32} {a1_there : Bool} {a1_count : Int32} {a1_captures : Int32} {a1_ranges : Int32} {a1_sort : Nat → Int32} {a1_end : Nat → Int32} {a1_before : Nat → Int32} {a1_last : Nat → Int32} {a1_value : Nat → Int32} {a1_low : Nat → Int32} {a1_high : Nat → Int32} {a1_withinCase : Nat → Bool} {a1_rangeBegin : Nat → Int32} {a1_rangeEnd : Nat → Int32} {Q : Int32 → Int32 → Int32 → Int32 → Int32 → Int32 → Int32 → Int32 → (Nat → Int32) → (Nat → Int32) → (Nat → Int32) → (Nat → Int32) → (Nat → Int32) → (Nat → Int32) → (Nat → Int64) → (Nat → Int64) → (Nat → Int32) → (Nat → Int32) → (Nat → Int64) → (Nat → Int64) → (Nat → Int32) → Prop} (a0 : 0 ≤ a2_count.toInt) (a1 : a2_count.toInt ≤ 256) (a2 : 0 ≤ v_count.toInt) (a3 : v_count.toInt ≤ 60) (a4 : 0 ≤ a1_count.toInt) (a5 : a1_count.toInt ≤ 256) (a6 : 0 ≤ a1_ranges.toInt) (a7 : a1_ranges.toInt ≤ 512) (b0 : rp (fun k v => -1 ≤ v ∧ v ≤ 255) a1_last 0 a1_count.toInt) (b1 : rp (fun k v => k < v ∧ v ≤ 256) a1_end 0 a1_count.toInt) (b2 : rp (fun k v => v < k ∧ -1 ≤ v) a1_before 0 a1_count.toInt) (hq : ∀ (r : Int32) (ov_count : Int32) (ov_positionCount : Int32) (ov_stamp : Int32) (ov_stackCount : Int32) (ov_width : Int32) (ov_program_start : Int32) (ov_program_count : Int32) (ov_program_kinds : Nat → Int32) (ov_program_subjects : Nat → Int32) (ov_program_nexts : Nat → Int32) (ov_program_others : Nat → Int32) (ov_positionOf : Nat → Int32) (ov_pcOf : Nat → Int32) (ov_follow : Nat → Int64) (ov_takers : Nat → Int64) (ov_seen : Nat → Int32) (ov_stack : Nat → Int32) (ov_states : Nat → Int64) (ov_ahead : Nat → Int64) (ov_goes : Nat → Int32), 0 ≤ ov_program_count.toInt → ov_program_count.toInt ≤ 512 → ((ov_width.toInt = 256 ∧ 256 ≤ a2_count.toInt) ∨ (ov_width.toInt = a2_count.toInt ∧ a2_count.toInt ≤ 256)) → 0 ≤ ov_positionCount.toInt + 1 → 0 ≤ ov_positionCount.toInt → ov_positionCount.toInt ≤ 60 → ov_positionCount.toInt ≤ 61 → ov_positionCount.toInt ≤ ov_program_count.toInt → ov_positionCount.toInt ≤ ov_program_count.toInt + 1 → 0 ≤ ov_width.toInt → ov_width.toInt ≤ 256 → 0 ≤ ov_stackCount.toInt + 1 → 0 ≤ ov_stackCount.toInt → 0 ≤ r.toInt + 1 → 0 ≤ r.toInt → r.toInt ≤ 1 → r.toInt ≤ 59 → r.toInt ≤ 60 → r.toInt ≤ 61 → r.toInt ≤ ov_positionCount.toInt + 1 → r.toInt ≤ ov_stackCount.toInt + 1 → r.toInt ≤ ov_width.toInt + 1 → r.toInt ≤ ov_program_count.toInt + 1 → r.toInt ≤ a2_count.toInt + 1 → r.toInt ≤ a1_count.toInt + 1 → r.toInt ≤ a1_ranges.toInt + 1 → r.toInt ≤ ov_count.toInt → 0 ≤ ov_count.toInt + 1 → 0 ≤ ov_count.toInt → 1 ≤ ov_count.toInt → ov_count.toInt ≤ 60 → ov_count.toInt ≤ 61 → Q r ov_count ov_positionCount ov_stamp ov_stackCount ov_width ov_program_start ov_program_count ov_program_kinds ov_program_subjects ov_program_nexts ov_program_others ov_positionOf ov_pcOf ov_follow ov_takers ov_seen ov_stack ov_states ov_ahead ov_goes) : w_X9_make_v1 a2_count a2_begins v_count v_stamp v_stackCount v_program_start v_program_kinds v_program_subjects v_program_nexts v_program_others v_positionOf v_pcOf v_follow v_takers v_seen v_stack v_states v_ahead v_goes a1_there a1_count a1_captures a1_ranges a1_sort a1_end a1_before a1_last a1_value a1_low a1_high a1_withinCase a1_rangeBegin a1_rangeEnd Q := by
  have q_t : (bz true).toInt = 1 := rfl
  have q_f : (bz false).toInt = 0 := rfl
  have q_0 : (0 : Int32).toInt = 0 := rfl
  have q_1 : (1 : Int32).toInt = 1 := rfl
  unfold w_X9_make_v1
  refine ok_X5_write_v1 (by omega) (by omega) (by omega) (by omega) (rp_mono b0 (by omega) (by omega)) (rp_mono b1 (by omega) (by omega)) (rp_mono b2 (by omega) (by omega)) (fun r5_0 r5_1 r5_2 r5_3 r5_4 r5_5 f1 f2 => ?_)
  intro x100016 ex100016
  have f3 : ((x100016.toInt = 256 ∧ 256 ≤ a2_count.toInt) ∨ (x100016.toInt = a2_count.toInt ∧ a2_count.toInt ≤ 256)) := by have h9 := i_min (a := a2_count.toInt) (b := 256) ex100016 rfl rfl; omega
  refine ok_X9_numberPositions (by omega) (by omega) (fun r100023_0 r100023_1 r100023_2 f4 f5 f6 f7 f8 f9 => ?_)
  have j_100028 : ∀ n_100028 : Nat, ∀ (l3_100028 : Int32) (v_stamp_100028 : Int32) (v_stackCount_100028 : Int32) (v_follow_100028 : Nat → Int64) (v_seen_100028 : Nat → Int32) (v_stack_100028 : Nat → Int32), 0 ≤ l3_100028.toInt → l3_100028.toInt ≤ r100023_0.toInt → ((-1) * l3_100028.toInt + 2147483648).toNat < n_100028 → w_X9_make_v1_100028 a2_count a2_begins a1_count a1_ranges a1_sort a1_value a1_low a1_high a1_withinCase a1_rangeBegin a1_rangeEnd Q v_count r100023_0 x100016 r5_0 r5_1 r5_2 r5_3 r5_4 r5_5 r100023_1 r100023_2 v_takers v_states v_ahead v_goes n_100028 l3_100028 v_stamp_100028 v_stackCount_100028 v_follow_100028 v_seen_100028 v_stack_100028 := by
    intro n_100028
    induction n_100028 with
    | zero =>
      intro l3_100028 v_stamp_100028 v_stackCount_100028 v_follow_100028 v_seen_100028 v_stack_100028 f10 f11 hm_100028
      exfalso; omega
    | succ n_100028 ih_100028 =>
      intro l3_100028 v_stamp_100028 v_stackCount_100028 v_follow_100028 v_seen_100028 v_stack_100028 f10 f11 hm_100028
      unfold w_X9_make_v1_100028
      unfold w_X9_make_v1_100028B
      refine ⟨fun c100033 => ?_, fun c100033 => ?_⟩
      · have f12 : r100023_0.toInt ≤ l3_100028.toInt := i_le (a := r100023_0.toInt) (b := l3_100028.toInt) rfl rfl c100033
        have j_100067 : ∀ n_100067 : Nat, ∀ (l3_100067 : Int32) (v_takers_100067 : Nat → Int64), 0 ≤ l3_100067.toInt → l3_100067.toInt ≤ a2_count.toInt → ((-1) * l3_100067.toInt + 2147483648).toNat < n_100067 → w_X9_make_v1_100067 a2_count a2_begins a1_count a1_ranges a1_sort a1_value a1_low a1_high a1_withinCase a1_rangeBegin a1_rangeEnd Q v_count r100023_0 v_stamp_100028 v_stackCount_100028 x100016 r5_0 r5_1 r5_2 r5_3 r5_4 r5_5 r100023_1 r100023_2 v_follow_100028 v_seen_100028 v_stack_100028 v_states v_ahead v_goes n_100067 l3_100067 v_takers_100067 := by
          intro n_100067
          induction n_100067 with
          | zero =>
            intro l3_100067 v_takers_100067 f13 f14 hm_100067
            exfalso; omega
          | succ n_100067 ih_100067 =>
            intro l3_100067 v_takers_100067 f13 f14 hm_100067
            unfold w_X9_make_v1_100067
            unfold w_X9_make_v1_100067B
            refine ⟨fun c100072 => ?_, fun c100072 => ?_⟩
            · have f15 : x100016.toInt ≤ l3_100067.toInt := i_le (a := x100016.toInt) (b := l3_100067.toInt) rfl rfl c100072
              intro g100107 eg100107
              refine ok_X9_reach (by omega) (by omega) (fun r100121 r100121_0 r100121_1 r100121_2 r100121_3 f16 f17 => ?_)
              intro g100124 eg100124
              have j_100130 : ∀ n_100130 : Nat, ∀ (l3_100130 : Int32) (l4_100130 : Int32) (v_count_100130 : Int32) (v_states_100130 : Nat → Int64) (v_ahead_100130 : Nat → Int64) (v_goes_100130 : Nat → Int32), 0 ≤ l3_100130.toInt → l3_100130.toInt ≤ 1 → 0 ≤ l4_100130.toInt → l4_100130.toInt ≤ v_count_100130.toInt → 1 ≤ v_count_100130.toInt → v_count_100130.toInt ≤ 60 → ((-1) * l4_100130.toInt + 60).toNat < n_100130 → w_X9_make_v1_100130 Q r100023_0 r100121_0 r100121_1 x100016 r5_0 r5_1 r5_2 r5_3 r5_4 r5_5 r100023_1 r100023_2 v_follow_100028 v_takers_100067 r100121_2 r100121_3 n_100130 l3_100130 l4_100130 v_count_100130 v_states_100130 v_ahead_100130 v_goes_100130 := by
                intro n_100130
                induction n_100130 with
                | zero =>
                  intro l3_100130 l4_100130 v_count_100130 v_states_100130 v_ahead_100130 v_goes_100130 f18 f19 f20 f21 f22 f23 hm_100130
                  exfalso; omega
                | succ n_100130 ih_100130 =>
                  intro l3_100130 l4_100130 v_count_100130 v_states_100130 v_ahead_100130 v_goes_100130 f18 f19 f20 f21 f22 f23 hm_100130
                  unfold w_X9_make_v1_100130
                  unfold w_X9_make_v1_100130B
                  have j_100163 : ((l3_100130.toInt = 0) ∨ (v_count_100130.toInt ≤ l4_100130.toInt)) → w_X9_make_v1_100163 Q l3_100130 v_count_100130 r100023_0 r100121_0 r100121_1 x100016 r5_0 r5_1 r5_2 r5_3 r5_4 r5_5 r100023_1 r100023_2 v_follow_100028 v_takers_100067 r100121_2 r100121_3 v_states_100130 v_ahead_100130 v_goes_100130 := by
                    intro f24
                    unfold w_X9_make_v1_100163
                    refine ⟨i_01 (by omega) (by omega), ?_⟩
                    exact hq l3_100130 v_count_100130 r100023_0 r100121_0 r100121_1 x100016 r5_0 r5_1 r5_2 r5_3 r5_4 r5_5 r100023_1 r100023_2 v_follow_100028 v_takers_100067 r100121_2 r100121_3 v_states_100130 v_ahead_100130 v_goes_100130 (by omega) (by omega) (by omega) (by omega) (by omega) (by omega) (by omega) (by omega) (by omega) (by omega) (by omega) (by omega) (by omega) (by omega) (by omega) (by omega) (by omega) (by omega) (by omega) (by omega) (by omega) (by omega) (by omega) (by omega) (by omega) (by omega) (by omega) (by omega) (by omega) (by omega) (by omega) (by omega)
                  refine ⟨fun c100131 => ?_, fun c100131 => ?_⟩
                  · have f25 : l3_100130.toInt = 0 := i_eq (a := l3_100130.toInt) (b := 0) rfl rfl c100131
                    exact j_100163  (by omega)
                  · have f26 : l3_100130.toInt ≠ 0 := i_ne (a := l3_100130.toInt) (b := 0) rfl rfl c100131
                    refine ⟨fun c100140 => ?_, fun c100140 => ?_⟩
                    · have f27 : v_count_100130.toInt ≤ l4_100130.toInt := i_le (a := v_count_100130.toInt) (b := l4_100130.toInt) rfl rfl c100140
                      exact j_100163  (by omega)
                    · have f28 : l4_100130.toInt < v_count_100130.toInt := i_nle (a := v_count_100130.toInt) (b := l4_100130.toInt) rfl rfl c100140
                      refine ⟨fun c100147 => ?_, fun c100147 => ?_⟩
                      · have f29 : 60 ≤ l4_100130.toInt := i_le (a := 60) (b := l4_100130.toInt) rfl rfl c100147
                        exfalso; omega
                      · have f30 : l4_100130.toInt < 60 := i_nle (a := 60) (b := l4_100130.toInt) rfl rfl c100147
                        refine ok_X9_fillState (by omega) (by omega) (by omega) (by omega) (by omega) (by omega) (by omega) (by omega) (fun r100153 r100153_0 r100153_1 r100153_2 r100153_3 f31 f32 f33 f34 => ?_)
                        intro x100157 ex100157
                        have f35 : x100157.toInt = l4_100130.toInt + 1 := i_add (a := l4_100130.toInt) (b := 1) ex100157 rfl rfl (by omega) (by omega)
                        exact ih_100130 r100153 x100157 r100153_0 r100153_1 r100153_2 r100153_3  (by omega) (by omega) (by omega) (by omega) (by omega) (by omega) (by have h8_0 := i_rng l4_100130; have h8_1 := i_rng x100157; omega)
              exact ⟨(60 : Int).toNat + 1, j_100130   ((60 : Int).toNat + 1) 1 0 1 g100107 g100124 v_goes  (by omega) (by omega) (by omega) (by omega) (by omega) (by omega) (by omega)⟩
            · have f36 : l3_100067.toInt < x100016.toInt := i_nle (a := x100016.toInt) (b := l3_100067.toInt) rfl rfl c100072
              refine ok_X0_leastOf (by omega) (by omega) (fun r100083 f37 => ?_)
              refine ok_X9_takersOf (by omega) (by omega) (by omega) (by omega) (by omega) (by omega) (by omega) (by omega) (fun r100086 => ?_)
              refine ⟨i_in (by omega) (by omega), ?_⟩
              intro g100089 eg100089
              intro x100090 ex100090
              have f38 : x100090.toInt = l3_100067.toInt + 1 := i_add (a := l3_100067.toInt) (b := 1) ex100090 rfl rfl (by omega) (by omega)
              exact ih_100067 x100090 g100089  (by omega) (by omega) (by have h8_0 := i_rng l3_100067; have h8_1 := i_rng x100090; omega)
        exact ⟨(2147483648 : Int).toNat + 1, j_100067   ((2147483648 : Int).toNat + 1) 0 v_takers  (by omega) (by omega) (by omega)⟩
      · have f39 : l3_100028.toInt < r100023_0.toInt := i_nle (a := r100023_0.toInt) (b := l3_100028.toInt) rfl rfl c100033
        refine ⟨i_in (by omega) (by omega), ?_⟩
        intro x100051 ex100051
        refine ok_X5_nextOf (by omega) (by omega) (fun r100052 f40 => ?_)
        refine ok_X9_reach (by omega) (by omega) (fun r100055 r100055_0 r100055_1 r100055_2 r100055_3 f41 f42 => ?_)
        refine ⟨i_in (by omega) (by omega), ?_⟩
        intro g100058 eg100058
        intro x100059 ex100059
        have f43 : x100059.toInt = l3_100028.toInt + 1 := i_add (a := l3_100028.toInt) (b := 1) ex100059 rfl rfl (by omega) (by omega)
        exact ih_100028 x100059 r100055_0 r100055_1 g100058 r100055_2 r100055_3  (by omega) (by omega) (by have h8_0 := i_rng l3_100028; have h8_1 := i_rng x100059; omega)
  exact ⟨(2147483648 : Int).toNat + 1, j_100028   ((2147483648 : Int).toNat + 1) 0 v_stamp v_stackCount v_follow v_seen v_stack  (by omega) (by omega) (by omega)⟩
set_option maxHeartbeats 4000000 in
theorem ok_X8_make_v1 {v_alphabet_begins : Nat → Int32} {v_one_count : Int32} {v_one_stamp : Int32} {v_one_stackCount : Int32} {v_one_program_start : Int32} {v_one_program_kinds : Nat → Int32} {v_one_program_subjects : Nat → Int32} {v_one_program_nexts : Nat → Int32} {v_one_program_others : Nat → Int32} {v_one_positionOf : Nat → Int32} {v_one_pcOf : Nat → Int32} {v_one_follow : Nat → Int64} {v_one_takers : Nat → Int64} {v_one_seen : Nat → Int32} {v_one_stack : Nat → Int32} {v_one_states : Nat → Int64} {v_one_ahead : Nat → Int64} {v_one_goes : Nat → Int32} {a1_there : Bool} {a1_count : Int32} {a1_captures : Int32} {a1_ranges : Int32} {a1_sort : Nat → Int32} {a1_end : Nat → Int32} {a1_before : Nat → Int32} {a1_last : Nat → Int32} {a1_parts : Nat → Int32} {a1_value : Nat → Int32} {a1_low : Nat → Int32} {a1_high : Nat → Int32} {a1_withinCase : Nat → Bool} {a1_rangeBegin : Nat → Int32} {a1_rangeEnd : Nat → Int32} {Q : Int32 → Int32 → (Nat → Int32) → Int32 → Int32 → Int32 → Int32 → Int32 → Int32 → Int32 → (Nat → Int32) → (Nat → Int32) → (Nat → Int32) → (Nat → Int32) → (Nat → Int32) → (Nat → Int32) → (Nat → Int64) → (Nat → Int64) → (Nat → Int32) → (Nat → Int32) → (Nat → Int64) → (Nat → Int64) → (Nat → Int32) → Prop} (a0 : 0 ≤ v_one_count.toInt) (a1 : v_one_count.toInt ≤ 60) (a2 : 0 ≤ a1_count.toInt) (a3 : a1_count.toInt ≤ 256) (a4 : 0 ≤ a1_ranges.toInt) (a5 : a1_ranges.toInt ≤ 512) (b0 : rp (fun k v => -1 ≤ v ∧ v ≤ 255) a1_last 0 a1_count.toInt) (b1 : rp (fun k v => k < v ∧ v ≤ 256) a1_end 0 a1_count.toInt) (b2 : rp (fun k v => v < k ∧ -1 ≤ v) a1_before 0 a1_count.toInt) (hq : ∀ (r : Int32) (ov_alphabet_count : Int32) (ov_alphabet_begins : Nat → Int32) (ov_one_count : Int32) (ov_one_positionCount : Int32) (ov_one_stamp : Int32) (ov_one_stackCount : Int32) (ov_one_width : Int32) (ov_one_program_start : Int32) (ov_one_program_count : Int32) (ov_one_program_kinds : Nat → Int32) (ov_one_program_subjects : Nat → Int32) (ov_one_program_nexts : Nat → Int32) (ov_one_program_others : Nat → Int32) (ov_one_positionOf : Nat → Int32) (ov_one_pcOf : Nat → Int32) (ov_one_follow : Nat → Int64) (ov_one_takers : Nat → Int64) (ov_one_seen : Nat → Int32) (ov_one_stack : Nat → Int32) (ov_one_states : Nat → Int64) (ov_one_ahead : Nat → Int64) (ov_one_goes : Nat → Int32), 0 ≤ ov_alphabet_count.toInt + 1 → 0 ≤ ov_alphabet_count.toInt → ov_alphabet_count.toInt ≤ 256 → 1 ≤ ov_alphabet_count.toInt → 0 ≤ ov_one_program_count.toInt → ov_one_program_count.toInt ≤ 512 → ((ov_one_width.toInt = 256 ∧ 256 ≤ ov_alphabet_count.toInt) ∨ (ov_one_width.toInt = ov_alphabet_count.toInt ∧ ov_alphabet_count.toInt ≤ 256)) → 0 ≤ ov_one_positionCount.toInt + 1 → 0 ≤ ov_one_positionCount.toInt → ov_one_positionCount.toInt ≤ 60 → ov_one_positionCount.toInt ≤ 61 → ov_one_positionCount.toInt ≤ ov_one_program_count.toInt → ov_one_positionCount.toInt ≤ ov_one_program_count.toInt + 1 → 0 ≤ ov_one_width.toInt → ov_one_width.toInt ≤ 256 → 0 ≤ ov_one_stackCount.toInt + 1 → 0 ≤ ov_one_stackCount.toInt → 0 ≤ ov_one_count.toInt + 1 → 0 ≤ ov_one_count.toInt → 1 ≤ ov_one_count.toInt → ov_one_count.toInt ≤ 60 → ov_one_count.toInt ≤ 61 → 0 ≤ r.toInt → r.toInt ≤ 1 → Q r ov_alphabet_count ov_alphabet_begins ov_one_count ov_one_positionCount ov_one_stamp ov_one_stackCount ov_one_width ov_one_program_start ov_one_program_count ov_one_program_kinds ov_one_program_subjects ov_one_program_nexts ov_one_program_others ov_one_positionOf ov_one_pcOf ov_one_follow ov_one_takers ov_one_seen ov_one_stack ov_one_states ov_one_ahead ov_one_goes) : w_X8_make_v1 v_alphabet_begins v_one_count v_one_stamp v_one_stackCount v_one_program_start v_one_program_kinds v_one_program_subjects v_one_program_nexts v_one_program_others v_one_positionOf v_one_pcOf v_one_follow v_one_takers v_one_seen v_one_stack v_one_states v_one_ahead v_one_goes a1_there a1_count a1_captures a1_ranges a1_sort a1_end a1_before a1_last a1_parts a1_value a1_low a1_high a1_withinCase a1_rangeBegin a1_rangeEnd Q := by
  have q_t : (bz true).toInt = 1 := rfl
  have q_f : (bz false).toInt = 0 := rfl
  have q_0 : (0 : Int32).toInt = 0 := rfl
  have q_1 : (1 : Int32).toInt = 1 := rfl
  unfold w_X8_make_v1
  refine ok_X0_gather_v1 (by omega) (by omega) (by omega) (by omega) (fun r6_0 r6_1 f1 f2 f3 f4 => ?_)
  refine ok_X9_make_v1 (by omega) (by omega) (by omega) (by omega) (by omega) (by omega) (by omega) (by omega) (rp_mono b0 (by omega) (by omega)) (rp_mono b1 (by omega) (by omega)) (rp_mono b2 (by omega) (by omega)) (fun r18 r18_0 r18_1 r18_2 r18_3 r18_4 r18_5 r18_6 r18_7 r18_8 r18_9 r18_10 r18_11 r18_12 r18_13 r18_14 r18_15 r18_16 r18_17 r18_18 r18_19 f5 f6 f7 f8 f9 f10 f11 f12 f13 f14 f15 f16 f17 f18 f19 f20 f21 f22 f23 f24 f25 f26 f27 f28 f29 f30 f31 f32 f33 f34 f35 f36 => ?_)
  have j_100048 : ∀ (s0_100048 : Int32), ((s0_100048.toInt = 0 ∧ r18.toInt = 0) ∨ (s0_100048.toInt = 1)) → w_X8_make_v1_100048 Q s0_100048 r6_0 r6_1 r18_0 r18_1 r18_2 r18_3 r18_4 r18_5 r18_6 r18_7 r18_8 r18_9 r18_10 r18_11 r18_12 r18_13 r18_14 r18_15 r18_16 r18_17 r18_18 r18_19 := by
    intro s0_100048 f37
    unfold w_X8_make_v1_100048
    refine ⟨i_01 (by omega) (by omega), ?_⟩
    exact hq s0_100048 r6_0 r6_1 r18_0 r18_1 r18_2 r18_3 r18_4 r18_5 r18_6 r18_7 r18_8 r18_9 r18_10 r18_11 r18_12 r18_13 r18_14 r18_15 r18_16 r18_17 r18_18 r18_19 (by omega) (by omega) (by omega) (by omega) (by omega) (by omega) (by omega) (by omega) (by omega) (by omega) (by omega) (by omega) (by omega) (by omega) (by omega) (by omega) (by omega) (by omega) (by omega) (by omega) (by omega) (by omega) (by omega) (by omega)
  refine ⟨fun c100021 => ?_, fun c100021 => ?_⟩
  · have f38 : r18.toInt = 0 := i_eq (a := r18.toInt) (b := 0) rfl rfl c100021
    exact j_100048 0 (by omega)
  · have f39 : r18.toInt ≠ 0 := i_ne (a := r18.toInt) (b := 0) rfl rfl c100021
    exact j_100048 1 (by omega)
set_option maxHeartbeats 4000000 in
theorem ok_X11_makeTables {v_sets_alphabet_count : Int32} {v_sets_alphabet_begins : Nat → Int32} {v_sets_one_count : Int32} {v_sets_one_positionCount : Int32} {v_sets_one_stamp : Int32} {v_sets_one_stackCount : Int32} {v_sets_one_width : Int32} {v_sets_one_program_start : Int32} {v_sets_one_program_count : Int32} {v_sets_one_program_kinds : Nat → Int32} {v_sets_one_program_subjects : Nat → Int32} {v_sets_one_program_nexts : Nat → Int32} {v_sets_one_program_others : Nat → Int32} {v_sets_one_positionOf : Nat → Int32} {v_sets_one_pcOf : Nat → Int32} {v_sets_one_follow : Nat → Int64} {v_sets_one_takers : Nat → Int64} {v_sets_one_seen : Nat → Int32} {v_sets_one_stack : Nat → Int32} {v_sets_one_states : Nat → Int64} {v_sets_one_ahead : Nat → Int64} {v_sets_one_goes : Nat → Int32} {a1_there : Bool} {a1_count : Int32} {a1_captures : Int32} {a1_ranges : Int32} {a1_sort : Nat → Int32} {a1_end : Nat → Int32} {a1_before : Nat → Int32} {a1_last : Nat → Int32} {a1_parts : Nat → Int32} {a1_value : Nat → Int32} {a1_low : Nat → Int32} {a1_high : Nat → Int32} {a1_size : Nat → Int32} {a1_positions : Nat → Int32} {a1_mayBeEmpty : Nat → Bool} {a1_withinCase : Nat → Bool} {a1_rangeBegin : Nat → Int32} {a1_rangeEnd : Nat → Int32} {h53 : Nat} {h1 : Nat} {Q : Int32 → Int32 → (Nat → Int32) → Int32 → Int32 → Int32 → Int32 → Int32 → Int32 → Int32 → Nat → (Nat → Int32) → (Nat → Int32) → (Nat → Int32) → (Nat → Int32) → (Nat → Int32) → (Nat → Int32) → (Nat → Int64) → (Nat → Int64) → (Nat → Int32) → (Nat → Int32) → (Nat → Int64) → (Nat → Int64) → (Nat → Int32) → Prop} (a0 : 0 ≤ v_sets_alphabet_count.toInt) (a1 : v_sets_alphabet_count.toInt ≤ 256) (a2 : 0 ≤ v_sets_one_count.toInt) (a3 : v_sets_one_count.toInt ≤ 60) (a4 : 0 ≤ v_sets_one_positionCount.toInt) (a5 : v_sets_one_positionCount.toInt ≤ 60) (a6 : 0 ≤ v_sets_one_width.toInt) (a7 : v_sets_one_width.toInt ≤ 256) (a8 : 0 ≤ v_sets_one_program_count.toInt) (a9 : v_sets_one_program_count.toInt ≤ 512) (a10 : 0 ≤ a1_count.toInt) (a11 : a1_count.toInt ≤ 256) (a12 : 0 ≤ a1_ranges.toInt) (a13 : a1_ranges.toInt ≤ 512) (b0 : rp (fun k v => -1 ≤ v ∧ v ≤ 255) a1_last 0 a1_count.toInt) (b1 : rp (fun k v => k < v ∧ v ≤ 256) a1_end 0 a1_count.toInt) (b2 : rp (fun k v => v < k ∧ -1 ≤ v) a1_before 0 a1_count.toInt) (hq : ∀ (r : Int32) (ov_sets_alphabet_count : Int32) (ov_sets_alphabet_begins : Nat → Int32) (ov_sets_one_count : Int32) (ov_sets_one_positionCount : Int32) (ov_sets_one_stamp : Int32) (ov_sets_one_stackCount : Int32) (ov_sets_one_width : Int32) (ov_sets_one_program_start : Int32) (ov_sets_one_program_count : Int32) (oh53 : Nat) (ov_sets_one_program_kinds : Nat → Int32) (ov_sets_one_program_subjects : Nat → Int32) (ov_sets_one_program_nexts : Nat → Int32) (ov_sets_one_program_others : Nat → Int32) (ov_sets_one_positionOf : Nat → Int32) (ov_sets_one_pcOf : Nat → Int32) (ov_sets_one_follow : Nat → Int64) (ov_sets_one_takers : Nat → Int64) (ov_sets_one_seen : Nat → Int32) (ov_sets_one_stack : Nat → Int32) (ov_sets_one_states : Nat → Int64) (ov_sets_one_ahead : Nat → Int64) (ov_sets_one_goes : Nat → Int32), 0 ≤ r.toInt + 7 → r.toInt ≤ 0 → 0 ≤ ov_sets_alphabet_count.toInt → ov_sets_alphabet_count.toInt ≤ 256 → 0 ≤ ov_sets_one_count.toInt → ov_sets_one_count.toInt ≤ 60 → 0 ≤ ov_sets_one_positionCount.toInt → ov_sets_one_positionCount.toInt ≤ 60 → 0 ≤ ov_sets_one_width.toInt → ov_sets_one_width.toInt ≤ 256 → 0 ≤ ov_sets_one_program_count.toInt → ov_sets_one_program_count.toInt ≤ 512 → Q r ov_sets_alphabet_count ov_sets_alphabet_begins ov_sets_one_count ov_sets_one_positionCount ov_sets_one_stamp ov_sets_one_stackCount ov_sets_one_width ov_sets_one_program_start ov_sets_one_program_count oh53 ov_sets_one_program_kinds ov_sets_one_program_subjects ov_sets_one_program_nexts ov_sets_one_program_others ov_sets_one_positionOf ov_sets_one_pcOf ov_sets_one_follow ov_sets_one_takers ov_sets_one_seen ov_sets_one_stack ov_sets_one_states ov_sets_one_ahead ov_sets_one_goes) : w_X11_makeTables v_sets_alphabet_count v_sets_alphabet_begins v_sets_one_count v_sets_one_positionCount v_sets_one_stamp v_sets_one_stackCount v_sets_one_width v_sets_one_program_start v_sets_one_program_count v_sets_one_program_kinds v_sets_one_program_subjects v_sets_one_program_nexts v_sets_one_program_others v_sets_one_positionOf v_sets_one_pcOf v_sets_one_follow v_sets_one_takers v_sets_one_seen v_sets_one_stack v_sets_one_states v_sets_one_ahead v_sets_one_goes a1_there a1_count a1_captures a1_ranges a1_sort a1_end a1_before a1_last a1_parts a1_value a1_low a1_high a1_size a1_positions a1_mayBeEmpty a1_withinCase a1_rangeBegin a1_rangeEnd h53 h1 Q := by
  have q_t : (bz true).toInt = 1 := rfl
  have q_f : (bz false).toInt = 0 := rfl
  have q_m7 : ((-7) : Int32).toInt = (-7) := rfl
  have q_m6 : ((-6) : Int32).toInt = (-6) := rfl
  have q_0 : (0 : Int32).toInt = 0 := rfl
  have q_2 : (2 : Int32).toInt = 2 := rfl
  unfold w_X11_makeTables
  refine ok_X10_isTakenBy (by omega) (by omega) (rp_mono b1 (by omega) (by omega)) (fun r2 f501 => ?_)
  refine ⟨fun c5 => ?_, fun c5 => ?_⟩
  · have f502 : r2.toInt = 0 := i_eq (a := r2.toInt) (b := 0) rfl rfl c5
    exact hq (-6) v_sets_alphabet_count v_sets_alphabet_begins v_sets_one_count v_sets_one_positionCount v_sets_one_stamp v_sets_one_stackCount v_sets_one_width v_sets_one_program_start v_sets_one_program_count h53 v_sets_one_program_kinds v_sets_one_program_subjects v_sets_one_program_nexts v_sets_one_program_others v_sets_one_positionOf v_sets_one_pcOf v_sets_one_follow v_sets_one_takers v_sets_one_seen v_sets_one_stack v_sets_one_states v_sets_one_ahead v_sets_one_goes (by omega) (by omega) (by omega) (by omega) (by omega) (by omega) (by omega) (by omega) (by omega) (by omega) (by omega) (by omega)
  · have f503 : r2.toInt ≠ 0 := i_ne (a := r2.toInt) (b := 0) rfl rfl c5
    refine ok_X10_isTooLargeFor (by omega) (by omega) (fun r25 f504 f505 f506 => ?_)
    refine ⟨fun c28 => ?_, fun c28 => ?_⟩
    · have f507 : r25.toInt ≠ 0 := i_ne (a := r25.toInt) (b := 0) rfl rfl c28
      exact hq (-7) v_sets_alphabet_count v_sets_alphabet_begins v_sets_one_count v_sets_one_positionCount v_sets_one_stamp v_sets_one_stackCount v_sets_one_width v_sets_one_program_start v_sets_one_program_count h53 v_sets_one_program_kinds v_sets_one_program_subjects v_sets_one_program_nexts v_sets_one_program_others v_sets_one_positionOf v_sets_one_pcOf v_sets_one_follow v_sets_one_takers v_sets_one_seen v_sets_one_stack v_sets_one_states v_sets_one_ahead v_sets_one_goes (by omega) (by omega) (by omega) (by omega) (by omega) (by omega) (by omega) (by omega) (by omega) (by omega) (by omega) (by omega)
    · have f508 : r25.toInt = 0 := i_eq (a := r25.toInt) (b := 0) rfl rfl c28
      refine ok_X8_make_v1 (by omega) (by omega) (by omega) (by omega) (by omega) (by omega) (rp_mono b0 (by omega) (by omega)) (rp_mono b1 (by omega) (by omega)) (rp_mono b2 (by omega) (by omega)) (fun r52 r52_0 r52_1 r52_2 r52_3 r52_4 r52_5 r52_6 r52_7 r52_8 r52_9 r52_10 r52_11 r52_12 r52_13 r52_14 r52_15 r52_16 r52_17 r52_18 r52_19 r52_20 r52_21 f509 f510 f511 f512 f513 f514 f515 f516 f517 f518 f519 f520 f521 f522 f523 f524 f525 f526 f527 f528 f529 f530 f531 f532 => ?_)
      have j_100064 : ∀ (s0_100064 : Int32), ((s0_100064.toInt + 7 = 0 ∧ r52.toInt = 0) ∨ (s0_100064.toInt = 0)) → w_X11_makeTables_100064 h1 Q s0_100064 r52_0 r52_1 r52_2 r52_3 r52_4 r52_5 r52_6 r52_7 r52_8 r52_9 r52_10 r52_11 r52_12 r52_13 r52_14 r52_15 r52_16 r52_17 r52_18 r52_19 r52_20 r52_21 := by
        intro s0_100064 f533
        unfold w_X11_makeTables_100064
        exact hq s0_100064 r52_0 r52_1 r52_2 r52_3 r52_4 r52_5 r52_6 r52_7 r52_8 h1 r52_9 r52_10 r52_11 r52_12 r52_13 r52_14 r52_15 r52_16 r52_17 r52_18 r52_19 r52_20 r52_21 (by omega) (by omega) (by omega) (by omega) (by omega) (by omega) (by omega) (by omega) (by omega) (by omega) (by omega) (by omega)
      refine ⟨fun c100055 => ?_, fun c100055 => ?_⟩
      · have f534 : r52.toInt = 0 := i_eq (a := r52.toInt) (b := 0) rfl rfl c100055
        exact j_100064 (-7) (by omega)
      · have f535 : r52.toInt ≠ 0 := i_ne (a := r52.toInt) (b := 0) rfl rfl c100055
        exact j_100064 0 (by omega)
set_option maxHeartbeats 4000000 in
theorem ok_X11_table {p1 : Int32} {v_latestFinding : Int32} {v_patterns : Nat → Option Nat} {v_sets_alphabet_count : Int32} {v_sets_alphabet_begins : Nat → Int32} {v_sets_one_count : Int32} {v_sets_one_positionCount : Int32} {v_sets_one_stamp : Int32} {v_sets_one_stackCount : Int32} {v_sets_one_width : Int32} {v_sets_one_program_start : Int32} {v_sets_one_program_count : Int32} {v_sets_one_program_kinds : Nat → Int32} {v_sets_one_program_subjects : Nat → Int32} {v_sets_one_program_nexts : Nat → Int32} {v_sets_one_program_others : Nat → Int32} {v_sets_one_positionOf : Nat → Int32} {v_sets_one_pcOf : Nat → Int32} {v_sets_one_follow : Nat → Int64} {v_sets_one_takers : Nat → Int64} {v_sets_one_seen : Nat → Int32} {v_sets_one_stack : Nat → Int32} {v_sets_one_states : Nat → Int64} {v_sets_one_ahead : Nat → Int64} {v_sets_one_goes : Nat → Int32} {v_patterns_p1_there : Bool} {v_patterns_p1_count : Int32} {v_patterns_p1_captures : Int32} {v_patterns_p1_ranges : Int32} {v_patterns_p1_sort : Nat → Int32} {v_patterns_p1_end : Nat → Int32} {v_patterns_p1_before : Nat → Int32} {v_patterns_p1_last : Nat → Int32} {v_patterns_p1_parts : Nat → Int32} {v_patterns_p1_value : Nat → Int32} {v_patterns_p1_low : Nat → Int32} {v_patterns_p1_high : Nat → Int32} {v_patterns_p1_size : Nat → Int32} {v_patterns_p1_positions : Nat → Int32} {v_patterns_p1_mayBeEmpty : Nat → Bool} {v_patterns_p1_withinCase : Nat → Bool} {v_patterns_p1_rangeBegin : Nat → Int32} {v_patterns_p1_rangeEnd : Nat → Int32} {h58 : Nat} {h20 : Nat} {Q : Int32 → Int32 → Int32 → (Nat → Int32) → Int32 → Int32 → Int32 → Int32 → Int32 → Int32 → Int32 → Nat → (Nat → Int32) → (Nat → Int32) → (Nat → Int32) → (Nat → Int32) → (Nat → Int32) → (Nat → Int32) → (Nat → Int64) → (Nat → Int64) → (Nat → Int32) → (Nat → Int32) → (Nat → Int64) → (Nat → Int64) → (Nat → Int32) → Prop} (a0 : 0 ≤ v_sets_alphabet_count.toInt) (a1 : v_sets_alphabet_count.toInt ≤ 256) (a2 : 0 ≤ v_sets_one_count.toInt) (a3 : v_sets_one_count.toInt ≤ 60) (a4 : 0 ≤ v_sets_one_positionCount.toInt) (a5 : v_sets_one_positionCount.toInt ≤ 60) (a6 : 0 ≤ v_sets_one_width.toInt) (a7 : v_sets_one_width.toInt ≤ 256) (a8 : 0 ≤ v_sets_one_program_count.toInt) (a9 : v_sets_one_program_count.toInt ≤ 512) (a10 : 0 ≤ v_patterns_p1_count.toInt) (a11 : v_patterns_p1_count.toInt ≤ 256) (a12 : 0 ≤ v_patterns_p1_ranges.toInt) (a13 : v_patterns_p1_ranges.toInt ≤ 512) (b0 : rp (fun k v => -1 ≤ v ∧ v ≤ 255) v_patterns_p1_last 0 v_patterns_p1_count.toInt) (b1 : rp (fun k v => k < v ∧ v ≤ 256) v_patterns_p1_end 0 v_patterns_p1_count.toInt) (b2 : rp (fun k v => v < k ∧ -1 ≤ v) v_patterns_p1_before 0 v_patterns_p1_count.toInt) (v0 : 0 ≤ p1.toInt → p1.toInt < 6 → v_patterns p1.toNatClampNeg = some h20) (hq : ∀ (r : Int32) (ov_latestFinding : Int32) (ov_sets_alphabet_count : Int32) (ov_sets_alphabet_begins : Nat → Int32) (ov_sets_one_count : Int32) (ov_sets_one_positionCount : Int32) (ov_sets_one_stamp : Int32) (ov_sets_one_stackCount : Int32) (ov_sets_one_width : Int32) (ov_sets_one_program_start : Int32) (ov_sets_one_program_count : Int32) (oh58 : Nat) (ov_sets_one_program_kinds : Nat → Int32) (ov_sets_one_program_subjects : Nat → Int32) (ov_sets_one_program_nexts : Nat → Int32) (ov_sets_one_program_others : Nat → Int32) (ov_sets_one_positionOf : Nat → Int32) (ov_sets_one_pcOf : Nat → Int32) (ov_sets_one_follow : Nat → Int64) (ov_sets_one_takers : Nat → Int64) (ov_sets_one_seen : Nat → Int32) (ov_sets_one_stack : Nat → Int32) (ov_sets_one_states : Nat → Int64) (ov_sets_one_ahead : Nat → Int64) (ov_sets_one_goes : Nat → Int32), 0 ≤ r.toInt + 7 → r.toInt ≤ 60 → 0 ≤ ov_sets_alphabet_count.toInt → ov_sets_alphabet_count.toInt ≤ 256 → 0 ≤ ov_sets_one_count.toInt → ov_sets_one_count.toInt ≤ 60 → 0 ≤ ov_sets_one_positionCount.toInt → ov_sets_one_positionCount.toInt ≤ 60 → 0 ≤ ov_sets_one_width.toInt → ov_sets_one_width.toInt ≤ 256 → 0 ≤ ov_sets_one_program_count.toInt → ov_sets_one_program_count.toInt ≤ 512 → Q r ov_latestFinding ov_sets_alphabet_count ov_sets_alphabet_begins ov_sets_one_count ov_sets_one_positionCount ov_sets_one_stamp ov_sets_one_stackCount ov_sets_one_width ov_sets_one_program_start ov_sets_one_program_count oh58 ov_sets_one_program_kinds ov_sets_one_program_subjects ov_sets_one_program_nexts ov_sets_one_program_others ov_sets_one_positionOf ov_sets_one_pcOf ov_sets_one_follow ov_sets_one_takers ov_sets_one_seen ov_sets_one_stack ov_sets_one_states ov_sets_one_ahead ov_sets_one_goes) : w_X11_table p1 v_latestFinding v_patterns v_sets_alphabet_count v_sets_alphabet_begins v_sets_one_count v_sets_one_positionCount v_sets_one_stamp v_sets_one_stackCount v_sets_one_width v_sets_one_program_start v_sets_one_program_count v_sets_one_program_kinds v_sets_one_program_subjects v_sets_one_program_nexts v_sets_one_program_others v_sets_one_positionOf v_sets_one_pcOf v_sets_one_follow v_sets_one_takers v_sets_one_seen v_sets_one_stack v_sets_one_states v_sets_one_ahead v_sets_one_goes v_patterns_p1_there v_patterns_p1_count v_patterns_p1_captures v_patterns_p1_ranges v_patterns_p1_sort v_patterns_p1_end v_patterns_p1_before v_patterns_p1_last v_patterns_p1_parts v_patterns_p1_value v_patterns_p1_low v_patterns_p1_high v_patterns_p1_size v_patterns_p1_positions v_patterns_p1_mayBeEmpty v_patterns_p1_withinCase v_patterns_p1_rangeBegin v_patterns_p1_rangeEnd h58 h20 Q := by
  have q_t : (bz true).toInt = 1 := rfl
  have q_f : (bz false).toInt = 0 := rfl
  have q_m2 : ((-2) : Int32).toInt = (-2) := rfl
  unfold w_X11_table
  refine ok_X11_patternIn v0 (fun r2 r2_0 f501 f502 => ?_)
  refine ⟨fun c2 => ?_, fun c2 => ?_⟩
  · have f503 : r2.toInt = 0 := i_eq (a := r2.toInt) (b := 0) rfl rfl c2
    exact hq (-2) r2_0 v_sets_alphabet_count v_sets_alphabet_begins v_sets_one_count v_sets_one_positionCount v_sets_one_stamp v_sets_one_stackCount v_sets_one_width v_sets_one_program_start v_sets_one_program_count h58 v_sets_one_program_kinds v_sets_one_program_subjects v_sets_one_program_nexts v_sets_one_program_others v_sets_one_positionOf v_sets_one_pcOf v_sets_one_follow v_sets_one_takers v_sets_one_seen v_sets_one_stack v_sets_one_states v_sets_one_ahead v_sets_one_goes (by omega) (by omega) (by omega) (by omega) (by omega) (by omega) (by omega) (by omega) (by omega) (by omega) (by omega) (by omega)
  · have f504 : r2.toInt ≠ 0 := i_ne (a := r2.toInt) (b := 0) rfl rfl c2
    refine ok_X11_makeTables (by omega) (by omega) (by omega) (by omega) (by omega) (by omega) (by omega) (by omega) (by omega) (by omega) (by omega) (by omega) (by omega) (by omega) (rp_mono b0 (by omega) (by omega)) (rp_mono b1 (by omega) (by omega)) (rp_mono b2 (by omega) (by omega)) (fun r200016 r200016_0 r200016_1 r200016_2 r200016_3 r200016_4 r200016_5 r200016_6 r200016_7 r200016_8 r200016_9 r200016_10 r200016_11 r200016_12 r200016_13 r200016_14 r200016_15 r200016_16 r200016_17 r200016_18 r200016_19 r200016_20 r200016_21 r200016_22 f505 f506 f507 f508 f509 f510 f511 f512 f513 f514 f515 f516 => ?_)
    have j_200038 : ∀ (s0_200038 : Int32), ((s0_200038.toInt = r200016_2.toInt ∧ r200016.toInt = 0) ∨ (s0_200038.toInt = r200016.toInt)) → w_X11_table_200038 Q s0_200038 r2_0 r200016_0 r200016_1 r200016_2 r200016_3 r200016_4 r200016_5 r200016_6 r200016_7 r200016_8 r200016_9 r200016_10 r200016_11 r200016_12 r200016_13 r200016_14 r200016_15 r200016_16 r200016_17 r200016_18 r200016_19 r200016_20 r200016_21 r200016_22 := by
      intro s0_200038 f517
      unfold w_X11_table_200038
      exact hq s0_200038 r2_0 r200016_0 r200016_1 r200016_2 r200016_3 r200016_4 r200016_5 r200016_6 r200016_7 r200016_8 r200016_9 r200016_10 r200016_11 r200016_12 r200016_13 r200016_14 r200016_15 r200016_16 r200016_17 r200016_18 r200016_19 r200016_20 r200016_21 r200016_22 (by omega) (by omega) (by omega) (by omega) (by omega) (by omega) (by omega) (by omega) (by omega) (by omega) (by omega) (by omega)
    refine ⟨fun c200021 => ?_, fun c200021 => ?_⟩
    · have f518 : r200016.toInt = 0 := i_eq (a := r200016.toInt) (b := 0) rfl rfl c200021
      exact j_200038 r200016_2 (by omega)
    · have f519 : r200016.toInt ≠ 0 := i_ne (a := r200016.toInt) (b := 0) rfl rfl c200021
      exact j_200038 r200016 (by omega)
set_option maxHeartbeats 4000000 in
theorem ok_X11_least {p1 : Int32} {v_latestFinding : Int32} {v_patterns : Nat → Option Nat} {v_sets_alphabet_count : Int32} {v_sets_alphabet_begins : Nat → Int32} {v_sets_one_count : Int32} {v_sets_one_positionCount : Int32} {v_sets_one_stamp : Int32} {v_sets_one_stackCount : Int32} {v_sets_one_width : Int32} {v_sets_one_program_start : Int32} {v_sets_one_program_count : Int32} {v_sets_one_program_kinds : Nat → Int32} {v_sets_one_program_subjects : Nat → Int32} {v_sets_one_program_nexts : Nat → Int32} {v_sets_one_program_others : Nat → Int32} {v_sets_one_positionOf : Nat → Int32} {v_sets_one_pcOf : Nat → Int32} {v_sets_one_follow : Nat → Int64} {v_sets_one_takers : Nat → Int64} {v_sets_one_seen : Nat → Int32} {v_sets_one_stack : Nat → Int32} {v_sets_one_states : Nat → Int64} {v_sets_one_ahead : Nat → Int64} {v_sets_one_goes : Nat → Int32} {v_sets_one_groups : Nat → Int32} {v_sets_one_finer : Nat → Int32} {v_patterns_p1_there : Bool} {v_patterns_p1_count : Int32} {v_patterns_p1_captures : Int32} {v_patterns_p1_ranges : Int32} {v_patterns_p1_sort : Nat → Int32} {v_patterns_p1_end : Nat → Int32} {v_patterns_p1_before : Nat → Int32} {v_patterns_p1_last : Nat → Int32} {v_patterns_p1_parts : Nat → Int32} {v_patterns_p1_value : Nat → Int32} {v_patterns_p1_low : Nat → Int32} {v_patterns_p1_high : Nat → Int32} {v_patterns_p1_size : Nat → Int32} {v_patterns_p1_positions : Nat → Int32} {v_patterns_p1_mayBeEmpty : Nat → Bool} {v_patterns_p1_withinCase : Nat → Bool} {v_patterns_p1_rangeBegin : Nat → Int32} {v_patterns_p1_rangeEnd : Nat → Int32} {h58 : Nat} {h22 : Nat} {Q : Int32 → Int32 → Int32 → (Nat → Int32) → Int32 → Int32 → Int32 → Int32 → Int32 → Int32 → Int32 → Nat → (Nat → Int32) → (Nat → Int32) → (Nat → Int32) → (Nat → Int32) → (Nat → Int32) → (Nat → Int32) → (Nat → Int64) → (Nat → Int64) → (Nat → Int32) → (Nat → Int32) → (Nat → Int64) → (Nat → Int64) → (Nat → Int32) → (Nat → Int32) → (Nat → Int32) → Prop} (a0 : 0 ≤ v_sets_alphabet_count.toInt) (a1 : v_sets_alphabet_count.toInt ≤ 256) (a2 : 0 ≤ v_sets_one_count.toInt) (a3 : v_sets_one_count.toInt ≤ 60) (a4 : 0 ≤ v_sets_one_positionCount.toInt) (a5 : v_sets_one_positionCount.toInt ≤ 60) (a6 : 0 ≤ v_sets_one_width.toInt) (a7 : v_sets_one_width.toInt ≤ 256) (a8 : 0 ≤ v_sets_one_program_count.toInt) (a9 : v_sets_one_program_count.toInt ≤ 512) (a10 : 0 ≤ v_patterns_p1_count.toInt) (a11 : v_patterns_p1_count.toInt ≤ 256) (a12 : 0 ≤ v_patterns_p1_ranges.toInt) (a13 : v_patterns_p1_ranges.toInt ≤ 512) (b0 : rp (fun k v => -1 ≤ v ∧ v ≤ 255) v_patterns_p1_last 0 v_patterns_p1_count.toInt) (b1 : rp (fun k v => k < v ∧ v ≤ 256) v_patterns_p1_end 0 v_patterns_p1_count.toInt) (b2 : rp (fun k v => v < k ∧ -1 ≤ v) v_patterns_p1_before 0 v_patterns_p1_count.toInt) (v0 : 0 ≤ p1.toInt → p1.toInt < 6 → v_patterns p1.toNatClampNeg = some h22) (hq : ∀ (r : Int32) (ov_latestFinding : Int32) (ov_sets_alphabet_count : Int32) (ov_sets_alphabet_begins : Nat → Int32) (ov_sets_one_count : Int32) (ov_sets_one_positionCount : Int32) (ov_sets_one_stamp : Int32) (ov_sets_one_stackCount : Int32) (ov_sets_one_width : Int32) (ov_sets_one_program_start : Int32) (ov_sets_one_program_count : Int32) (oh58 : Nat) (ov_sets_one_program_kinds : Nat → Int32) (ov_sets_one_program_subjects : Nat → Int32) (ov_sets_one_program_nexts : Nat → Int32) (ov_sets_one_program_others : Nat → Int32) (ov_sets_one_positionOf : Nat → Int32) (ov_sets_one_pcOf : Nat → Int32) (ov_sets_one_follow : Nat → Int64) (ov_sets_one_takers : Nat → Int64) (ov_sets_one_seen : Nat → Int32) (ov_sets_one_stack : Nat → Int32) (ov_sets_one_states : Nat → Int64) (ov_sets_one_ahead : Nat → Int64) (ov_sets_one_goes : Nat → Int32) (ov_sets_one_groups : Nat → Int32) (ov_sets_one_finer : Nat → Int32), 0 ≤ r.toInt + 7 → r.toInt ≤ 60 → 0 ≤ ov_sets_alphabet_count.toInt → ov_sets_alphabet_count.toInt ≤ 256 → 0 ≤ ov_sets_one_count.toInt → ov_sets_one_count.toInt ≤ 60 → 0 ≤ ov_sets_one_positionCount.toInt → ov_sets_one_positionCount.toInt ≤ 60 → 0 ≤ ov_sets_one_width.toInt → ov_sets_one_width.toInt ≤ 256 → 0 ≤ ov_sets_one_program_count.toInt → ov_sets_one_program_count.toInt ≤ 512 → Q r ov_latestFinding ov_sets_alphabet_count ov_sets_alphabet_begins ov_sets_one_count ov_sets_one_positionCount ov_sets_one_stamp ov_sets_one_stackCount ov_sets_one_width ov_sets_one_program_start ov_sets_one_program_count oh58 ov_sets_one_program_kinds ov_sets_one_program_subjects ov_sets_one_program_nexts ov_sets_one_program_others ov_sets_one_positionOf ov_sets_one_pcOf ov_sets_one_follow ov_sets_one_takers ov_sets_one_seen ov_sets_one_stack ov_sets_one_states ov_sets_one_ahead ov_sets_one_goes ov_sets_one_groups ov_sets_one_finer) : w_X11_least p1 v_latestFinding v_patterns v_sets_alphabet_count v_sets_alphabet_begins v_sets_one_count v_sets_one_positionCount v_sets_one_stamp v_sets_one_stackCount v_sets_one_width v_sets_one_program_start v_sets_one_program_count v_sets_one_program_kinds v_sets_one_program_subjects v_sets_one_program_nexts v_sets_one_program_others v_sets_one_positionOf v_sets_one_pcOf v_sets_one_follow v_sets_one_takers v_sets_one_seen v_sets_one_stack v_sets_one_states v_sets_one_ahead v_sets_one_goes v_sets_one_groups v_sets_one_finer v_patterns_p1_there v_patterns_p1_count v_patterns_p1_captures v_patterns_p1_ranges v_patterns_p1_sort v_patterns_p1_end v_patterns_p1_before v_patterns_p1_last v_patterns_p1_parts v_patterns_p1_value v_patterns_p1_low v_patterns_p1_high v_patterns_p1_size v_patterns_p1_positions v_patterns_p1_mayBeEmpty v_patterns_p1_withinCase v_patterns_p1_rangeBegin v_patterns_p1_rangeEnd h58 h22 Q := by
  have q_t : (bz true).toInt = 1 := rfl
  have q_f : (bz false).toInt = 0 := rfl
  have q_m2 : ((-2) : Int32).toInt = (-2) := rfl
  unfold w_X11_least
  refine ok_X11_patternIn v0 (fun r2 r2_0 f501 f502 => ?_)
  refine ⟨fun c2 => ?_, fun c2 => ?_⟩
  · have f503 : r2.toInt = 0 := i_eq (a := r2.toInt) (b := 0) rfl rfl c2
    exact hq (-2) r2_0 v_sets_alphabet_count v_sets_alphabet_begins v_sets_one_count v_sets_one_positionCount v_sets_one_stamp v_sets_one_stackCount v_sets_one_width v_sets_one_program_start v_sets_one_program_count h58 v_sets_one_program_kinds v_sets_one_program_subjects v_sets_one_program_nexts v_sets_one_program_others v_sets_one_positionOf v_sets_one_pcOf v_sets_one_follow v_sets_one_takers v_sets_one_seen v_sets_one_stack v_sets_one_states v_sets_one_ahead v_sets_one_goes v_sets_one_groups v_sets_one_finer (by omega) (by omega) (by omega) (by omega) (by omega) (by omega) (by omega) (by omega) (by omega) (by omega) (by omega) (by omega)
  · have f504 : r2.toInt ≠ 0 := i_ne (a := r2.toInt) (b := 0) rfl rfl c2
    refine ok_X11_makeTables (by omega) (by omega) (by omega) (by omega) (by omega) (by omega) (by omega) (by omega) (by omega) (by omega) (by omega) (by omega) (by omega) (by omega) (rp_mono b0 (by omega) (by omega)) (rp_mono b1 (by omega) (by omega)) (rp_mono b2 (by omega) (by omega)) (fun r200016 r200016_0 r200016_1 r200016_2 r200016_3 r200016_4 r200016_5 r200016_6 r200016_7 r200016_8 r200016_9 r200016_10 r200016_11 r200016_12 r200016_13 r200016_14 r200016_15 r200016_16 r200016_17 r200016_18 r200016_19 r200016_20 r200016_21 r200016_22 f505 f506 f507 f508 f509 f510 f511 f512 f513 f514 f515 f516 => ?_)
    have j_200038 : ∀ (s0_200038 : Int32) (v_sets_one_groups_200038 : Nat → Int32) (v_sets_one_finer_200038 : Nat → Int32), ((r200016.toInt = 0 ∧ 0 ≤ s0_200038.toInt + 1 ∧ 0 ≤ s0_200038.toInt ∧ s0_200038.toInt ≤ 60 ∧ s0_200038.toInt ≤ 61 ∧ s0_200038.toInt ≤ r200016_2.toInt ∧ s0_200038.toInt ≤ r200016_2.toInt + 1) ∨ (s0_200038.toInt = r200016.toInt)) → w_X11_least_200038 Q s0_200038 r2_0 r200016_0 r200016_1 r200016_2 r200016_3 r200016_4 r200016_5 r200016_6 r200016_7 r200016_8 r200016_9 r200016_10 r200016_11 r200016_12 r200016_13 r200016_14 r200016_15 r200016_16 r200016_17 r200016_18 r200016_19 r200016_20 r200016_21 r200016_22 v_sets_one_groups_200038 v_sets_one_finer_200038 := by
      intro s0_200038 v_sets_one_groups_200038 v_sets_one_finer_200038 f517
      unfold w_X11_least_200038
      exact hq s0_200038 r2_0 r200016_0 r200016_1 r200016_2 r200016_3 r200016_4 r200016_5 r200016_6 r200016_7 r200016_8 r200016_9 r200016_10 r200016_11 r200016_12 r200016_13 r200016_14 r200016_15 r200016_16 r200016_17 r200016_18 r200016_19 r200016_20 r200016_21 r200016_22 v_sets_one_groups_200038 v_sets_one_finer_200038 (by omega) (by omega) (by omega) (by omega) (by omega) (by omega) (by omega) (by omega) (by omega) (by omega) (by omega) (by omega)
    refine ⟨fun c200021 => ?_, fun c200021 => ?_⟩
    · have f518 : r200016.toInt = 0 := i_eq (a := r200016.toInt) (b := 0) rfl rfl c200021
      refine ok_X9_fewestStates (by omega) (by omega) (by omega) (by omega) (fun r200035 r200035_0 r200035_1 f519 f520 f521 f522 f523 f524 => ?_)
      exact j_200038 r200035 r200035_0 r200035_1 (by omega)
    · have f525 : r200016.toInt ≠ 0 := i_ne (a := r200016.toInt) (b := 0) rfl rfl c200021
      exact j_200038 r200016 v_sets_one_groups v_sets_one_finer (by omega)
set_option maxHeartbeats 4000000 in
theorem ok_X11_drop {p1 : Int32} {v_latestFinding : Int32} {v_openSlot : Int32} {v_openSubject : Int32} {v_subjects : Nat → Option Nat} {v_subjects_p1_count : Int32} {v_subjects_p1_over : Bool} {v_subjects_p1_there : Bool} {h2 : Nat} {Q : Int32 → Int32 → Int32 → Int32 → Int32 → Bool → Bool → Prop} (a0 : 0 ≤ v_subjects_p1_count.toInt) (v0 : 0 ≤ p1.toInt → p1.toInt < 4 → v_subjects p1.toNatClampNeg = some h2) (hq : ∀ (r : Int32) (ov_latestFinding : Int32) (ov_openSlot : Int32) (ov_openSubject : Int32) (ov_subjects_p1_count : Int32) (ov_subjects_p1_over : Bool) (ov_subjects_p1_there : Bool), r.toInt ≤ v_subjects_p1_count.toInt → ov_openSubject.toInt ≤ v_openSubject.toInt → ov_subjects_p1_count.toInt ≤ v_subjects_p1_count.toInt → ((ov_openSlot.toInt = v_openSlot.toInt ∧ ov_openSubject.toInt = v_openSubject.toInt ∧ ov_subjects_p1_count.toInt = v_subjects_p1_count.toInt ∧ (bz ov_subjects_p1_over).toInt = (bz v_subjects_p1_over).toInt ∧ (bz ov_subjects_p1_there).toInt = (bz v_subjects_p1_there).toInt) ∨ (r.toInt = v_subjects_p1_count.toInt ∧ ov_latestFinding.toInt = v_latestFinding.toInt ∧ (bz ov_subjects_p1_there).toInt = 0 ∧ ov_subjects_p1_count.toInt = 0 ∧ (bz ov_subjects_p1_over).toInt = 0)) → 0 ≤ r.toInt + 3 → ((ov_openSlot.toInt + 1 = 0) ∨ (ov_openSlot.toInt = v_openSlot.toInt)) → ((¬ (0 ≤ p1.toInt ∧ p1.toInt ≤ 3) ∧ r.toInt = -2 ∧ (ov_subjects_p1_count.toInt = v_subjects_p1_count.toInt ∧ (bz ov_subjects_p1_there).toInt = (bz v_subjects_p1_there).toInt)) ∨ ((0 ≤ p1.toInt ∧ p1.toInt ≤ 3) ∧ (bz v_subjects_p1_there).toInt = 0 ∧ r.toInt = -3 ∧ (ov_subjects_p1_count.toInt = v_subjects_p1_count.toInt ∧ (bz ov_subjects_p1_there).toInt = (bz v_subjects_p1_there).toInt)) ∨ ((0 ≤ p1.toInt ∧ p1.toInt ≤ 3) ∧ (bz v_subjects_p1_there).toInt = 1 ∧ r.toInt = v_subjects_p1_count.toInt ∧ ov_subjects_p1_count.toInt = 0 ∧ (bz ov_subjects_p1_there).toInt = 0)) → Q r ov_latestFinding ov_openSlot ov_openSubject ov_subjects_p1_count ov_subjects_p1_over ov_subjects_p1_there) : w_X11_drop p1 v_latestFinding v_openSlot v_openSubject v_subjects v_subjects_p1_count v_subjects_p1_over v_subjects_p1_there h2 Q := by
  have q_t : (bz true).toInt = 1 := rfl
  have q_f : (bz false).toInt = 0 := rfl
  unfold w_X11_drop
  refine ok_X11_subjectAt v0 (fun r2 f1 f2 f3 f4 f5 f6 f7 => ?_)
  refine ⟨fun c2 => ?_, fun c2 => ?_⟩
  · have f8 : r2.toInt = 0 := i_eq (a := r2.toInt) (b := 0) rfl rfl c2
    refine ok_X11_refusalOfSubject  (fun r100012 r100012_0 f9 f10 f11 f12 => ?_)
    exact hq r100012 r100012_0 v_openSlot v_openSubject v_subjects_p1_count v_subjects_p1_over v_subjects_p1_there (by omega) (by omega) (by omega) (by omega) (by omega) (by omega) (by omega)
  · have f13 : r2.toInt ≠ 0 := i_ne (a := r2.toInt) (b := 0) rfl rfl c2
    refine ok_X7_empty  (fun r200022_0 r200022_1 f14 f15 => ?_)
    refine ok_X11_endSearchOver  (fun r200032_0 r200032_1 f16 f17 => ?_)
    exact hq v_subjects_p1_count v_latestFinding r200032_0 r200032_1 r200022_0 r200022_1 false (by omega) (by omega) (by omega) (by omega) (by omega) (by omega) (by omega)
set_option maxHeartbeats 4000000 in
theorem ok_X11_patternsThere {v_patterns : Nat → Option Nat} {v_patterns_0_there : Bool} {v_patterns_1_there : Bool} {v_patterns_2_there : Bool} {v_patterns_3_there : Bool} {v_patterns_4_there : Bool} {v_patterns_5_there : Bool} {h2 : Nat} {h3 : Nat} {h4 : Nat} {h5 : Nat} {h6 : Nat} {h7 : Nat} {Q : Int32 → Prop} (v0 : v_patterns (0 : Int32).toNatClampNeg = some h2) (v1 : v_patterns (1 : Int32).toNatClampNeg = some h3) (v2 : v_patterns (2 : Int32).toNatClampNeg = some h4) (v3 : v_patterns (3 : Int32).toNatClampNeg = some h5) (v4 : v_patterns (4 : Int32).toNatClampNeg = some h6) (v5 : v_patterns (5 : Int32).toNatClampNeg = some h7) (hq : ∀ (r : Int32), 0 ≤ r.toInt → r.toInt ≤ 6 → Q r) : w_X11_patternsThere v_patterns v_patterns_0_there v_patterns_1_there v_patterns_2_there v_patterns_3_there v_patterns_4_there v_patterns_5_there h2 h3 h4 h5 h6 h7 Q := by
  have q_t : (bz true).toInt = 1 := rfl
  have q_f : (bz false).toInt = 0 := rfl
  have q_0 : (0 : Int32).toInt = 0 := rfl
  have q_1 : (1 : Int32).toInt = 1 := rfl
  have q_2 : (2 : Int32).toInt = 2 := rfl
  have q_3 : (3 : Int32).toInt = 3 := rfl
  have q_4 : (4 : Int32).toInt = 4 := rfl
  have q_5 : (5 : Int32).toInt = 5 := rfl
  have q_6 : (6 : Int32).toInt = 6 := rfl
  unfold w_X11_patternsThere
  refine ⟨v0, ?_⟩
  have f501 : (0 ≤ (bz v_patterns_0_there).toInt ∧ (bz v_patterns_0_there).toInt ≤ 1) := i_bzr v_patterns_0_there
  have j_100031 : ∀ (s0_100031 : Int32), ((s0_100031.toInt = 0 ∧ (bz v_patterns_0_there).toInt = 0) ∨ (s0_100031.toInt = 1)) → w_X11_patternsThere_100031 v_patterns v_patterns_1_there v_patterns_2_there v_patterns_3_there v_patterns_4_there v_patterns_5_there h3 h4 h5 h6 h7 Q s0_100031 0 := by
    intro s0_100031 f502
    unfold w_X11_patternsThere_100031
    intro x100031 ex100031
    have f503 : x100031.toInt = 0 + s0_100031.toInt := i_add (a := 0) (b := s0_100031.toInt) ex100031 rfl rfl (by omega) (by omega)
    refine ⟨v1, ?_⟩
    have f504 : (0 ≤ (bz v_patterns_1_there).toInt ∧ (bz v_patterns_1_there).toInt ≤ 1) := i_bzr v_patterns_1_there
    have j_200031 : ∀ (s0_200031 : Int32), ((s0_200031.toInt = 0 ∧ (bz v_patterns_1_there).toInt = 0) ∨ (s0_200031.toInt = 1)) → w_X11_patternsThere_200031 v_patterns v_patterns_2_there v_patterns_3_there v_patterns_4_there v_patterns_5_there h4 h5 h6 h7 Q s0_200031 x100031 := by
      intro s0_200031 f505
      unfold w_X11_patternsThere_200031
      intro x200031 ex200031
      have f506 : x200031.toInt = x100031.toInt + s0_200031.toInt := i_add (a := x100031.toInt) (b := s0_200031.toInt) ex200031 rfl rfl (by omega) (by omega)
      refine ⟨v2, ?_⟩
      have f507 : (0 ≤ (bz v_patterns_2_there).toInt ∧ (bz v_patterns_2_there).toInt ≤ 1) := i_bzr v_patterns_2_there
      have j_300031 : ∀ (s0_300031 : Int32), ((s0_300031.toInt = 0 ∧ (bz v_patterns_2_there).toInt = 0) ∨ (s0_300031.toInt = 1)) → w_X11_patternsThere_300031 v_patterns v_patterns_3_there v_patterns_4_there v_patterns_5_there h5 h6 h7 Q s0_300031 x200031 := by
        intro s0_300031 f508
        unfold w_X11_patternsThere_300031
        intro x300031 ex300031
        have f509 : x300031.toInt = x200031.toInt + s0_300031.toInt := i_add (a := x200031.toInt) (b := s0_300031.toInt) ex300031 rfl rfl (by omega) (by omega)
        refine ⟨v3, ?_⟩
        have f510 : (0 ≤ (bz v_patterns_3_there).toInt ∧ (bz v_patterns_3_there).toInt ≤ 1) := i_bzr v_patterns_3_there
        have j_400031 : ∀ (s0_400031 : Int32), ((s0_400031.toInt = 0 ∧ (bz v_patterns_3_there).toInt = 0) ∨ (s0_400031.toInt = 1)) → w_X11_patternsThere_400031 v_patterns v_patterns_4_there v_patterns_5_there h6 h7 Q s0_400031 x300031 := by
          intro s0_400031 f511
          unfold w_X11_patternsThere_400031
          intro x400031 ex400031
          have f512 : x400031.toInt = x300031.toInt + s0_400031.toInt := i_add (a := x300031.toInt) (b := s0_400031.toInt) ex400031 rfl rfl (by omega) (by omega)
          refine ⟨v4, ?_⟩
          have f513 : (0 ≤ (bz v_patterns_4_there).toInt ∧ (bz v_patterns_4_there).toInt ≤ 1) := i_bzr v_patterns_4_there
          have j_500031 : ∀ (s0_500031 : Int32), ((s0_500031.toInt = 0 ∧ (bz v_patterns_4_there).toInt = 0) ∨ (s0_500031.toInt = 1)) → w_X11_patternsThere_500031 v_patterns v_patterns_5_there h7 Q s0_500031 x400031 := by
            intro s0_500031 f514
            unfold w_X11_patternsThere_500031
            intro x500031 ex500031
            have f515 : x500031.toInt = x400031.toInt + s0_500031.toInt := i_add (a := x400031.toInt) (b := s0_500031.toInt) ex500031 rfl rfl (by omega) (by omega)
            refine ⟨v5, ?_⟩
            have f516 : (0 ≤ (bz v_patterns_5_there).toInt ∧ (bz v_patterns_5_there).toInt ≤ 1) := i_bzr v_patterns_5_there
            have j_600031 : ∀ (s0_600031 : Int32), ((s0_600031.toInt = 0 ∧ (bz v_patterns_5_there).toInt = 0) ∨ (s0_600031.toInt = 1)) → w_X11_patternsThere_600031 Q s0_600031 x500031 := by
              intro s0_600031 f517
              unfold w_X11_patternsThere_600031
              intro x600031 ex600031
              have f518 : x600031.toInt = x500031.toInt + s0_600031.toInt := i_add (a := x500031.toInt) (b := s0_600031.toInt) ex600031 rfl rfl (by omega) (by omega)
              exact hq x600031 (by omega) (by omega)
            refine ⟨fun c600023 => ?_, fun c600023 => ?_⟩
            · have f519 : (bz v_patterns_5_there).toInt = 0 := i_eq (a := (bz v_patterns_5_there).toInt) (b := 0) rfl rfl c600023
              exact j_600031 0 (by omega)
            · have f520 : (bz v_patterns_5_there).toInt ≠ 0 := i_ne (a := (bz v_patterns_5_there).toInt) (b := 0) rfl rfl c600023
              exact j_600031 1 (by omega)
          refine ⟨fun c500023 => ?_, fun c500023 => ?_⟩
          · have f521 : (bz v_patterns_4_there).toInt = 0 := i_eq (a := (bz v_patterns_4_there).toInt) (b := 0) rfl rfl c500023
            exact j_500031 0 (by omega)
          · have f522 : (bz v_patterns_4_there).toInt ≠ 0 := i_ne (a := (bz v_patterns_4_there).toInt) (b := 0) rfl rfl c500023
            exact j_500031 1 (by omega)
        refine ⟨fun c400023 => ?_, fun c400023 => ?_⟩
        · have f523 : (bz v_patterns_3_there).toInt = 0 := i_eq (a := (bz v_patterns_3_there).toInt) (b := 0) rfl rfl c400023
          exact j_400031 0 (by omega)
        · have f524 : (bz v_patterns_3_there).toInt ≠ 0 := i_ne (a := (bz v_patterns_3_there).toInt) (b := 0) rfl rfl c400023
          exact j_400031 1 (by omega)
      refine ⟨fun c300023 => ?_, fun c300023 => ?_⟩
      · have f525 : (bz v_patterns_2_there).toInt = 0 := i_eq (a := (bz v_patterns_2_there).toInt) (b := 0) rfl rfl c300023
        exact j_300031 0 (by omega)
      · have f526 : (bz v_patterns_2_there).toInt ≠ 0 := i_ne (a := (bz v_patterns_2_there).toInt) (b := 0) rfl rfl c300023
        exact j_300031 1 (by omega)
    refine ⟨fun c200023 => ?_, fun c200023 => ?_⟩
    · have f527 : (bz v_patterns_1_there).toInt = 0 := i_eq (a := (bz v_patterns_1_there).toInt) (b := 0) rfl rfl c200023
      exact j_200031 0 (by omega)
    · have f528 : (bz v_patterns_1_there).toInt ≠ 0 := i_ne (a := (bz v_patterns_1_there).toInt) (b := 0) rfl rfl c200023
      exact j_200031 1 (by omega)
  refine ⟨fun c100023 => ?_, fun c100023 => ?_⟩
  · have f529 : (bz v_patterns_0_there).toInt = 0 := i_eq (a := (bz v_patterns_0_there).toInt) (b := 0) rfl rfl c100023
    exact j_100031 0 (by omega)
  · have f530 : (bz v_patterns_0_there).toInt ≠ 0 := i_ne (a := (bz v_patterns_0_there).toInt) (b := 0) rfl rfl c100023
    exact j_100031 1 (by omega)
