set_option maxHeartbeats 4000000 in
theorem ok_X12_looped {p1 : Int32} {v_taped : Int32} {v_newNodes : Int32} {v_fault : Int32} {v_faultAt : Int32} {v_at : Int32} {v_items : Int32} {v_loopLeast : Int32} {v_loopMost : Int32} {v_tape : Nat → Int32} {v_newSort : Nat → Int32} {v_newValue : Nat → Int32} {v_newLeast : Nat → Int32} {v_newMost : Nat → Int32} {v_newFirst : Nat → Int32} {v_newNext : Nat → Int32} {v_newMany : Nat → Int32} {v_newPart : Nat → Int32} {Q : Int32 → Int32 → Int32 → Int32 → Int32 → Int32 → Int32 → Int32 → (Nat → Int32) → (Nat → Int32) → (Nat → Int32) → (Nat → Int32) → (Nat → Int32) → (Nat → Int32) → (Nat → Int32) → (Nat → Int32) → Prop} (a0 : 0 ≤ v_taped.toInt) (a1 : v_taped.toInt ≤ 200) (a2 : ((1 ≤ v_fault.toInt) ∨ (v_at.toInt ≤ v_taped.toInt))) (a3 : 0 ≤ v_fault.toInt) (a4 : 0 ≤ v_at.toInt) (a5 : v_at.toInt ≤ 1000) (a6 : 0 ≤ v_newNodes.toInt) (a7 : v_newNodes.toInt ≤ 259) (a8 : 0 ≤ v_items.toInt) (a9 : v_items.toInt ≤ 102) (a10 : ((1 ≤ v_fault.toInt) ∨ (v_items.toInt ≤ 100))) (a11 : 0 ≤ p1.toInt) (a12 : p1.toInt ≤ 259) (b0 : rp (fun k v => 0 ≤ v ∧ v ≤ 126) v_tape 0 200) (hq : ∀ (r : Int32) (ov_newNodes : Int32) (ov_fault : Int32) (ov_faultAt : Int32) (ov_at : Int32) (ov_items : Int32) (ov_loopLeast : Int32) (ov_loopMost : Int32) (ov_newSort : Nat → Int32) (ov_newValue : Nat → Int32) (ov_newLeast : Nat → Int32) (ov_newMost : Nat → Int32) (ov_newFirst : Nat → Int32) (ov_newNext : Nat → Int32) (ov_newMany : Nat → Int32) (ov_newPart : Nat → Int32), v_newNodes.toInt ≤ ov_newNodes.toInt → v_fault.toInt ≤ ov_fault.toInt → v_at.toInt ≤ ov_at.toInt → ov_at.toInt ≤ v_at.toInt + 8 → v_items.toInt ≤ ov_items.toInt → 0 ≤ r.toInt → r.toInt ≤ 259 → ov_newNodes.toInt ≤ 260 → ov_at.toInt ≤ 1000 → ov_items.toInt ≤ 102 → ((1 ≤ ov_fault.toInt) ∨ (ov_at.toInt ≤ v_taped.toInt)) → ov_newNodes.toInt ≤ v_newNodes.toInt + 1 → ov_newNodes.toInt + v_at.toInt ≤ ov_at.toInt + v_newNodes.toInt → ov_items.toInt ≤ v_items.toInt + 1 → ((1 ≤ ov_fault.toInt) ∨ (ov_items.toInt ≤ 100)) → Q r ov_newNodes ov_fault ov_faultAt ov_at ov_items ov_loopLeast ov_loopMost ov_newSort ov_newValue ov_newLeast ov_newMost ov_newFirst ov_newNext ov_newMany ov_newPart) : w_X12_looped p1 v_taped v_newNodes v_fault v_faultAt v_at v_items v_loopLeast v_loopMost v_tape v_newSort v_newValue v_newLeast v_newMost v_newFirst v_newNext v_newMany v_newPart Q := by
  have q_t : (bz true).toInt = 1 := rfl
  have q_f : (bz false).toInt = 0 := rfl
  have q_m1 : ((-1) : Int32).toInt = (-1) := rfl
  have q_0 : (0 : Int32).toInt = 0 := rfl
  have q_1 : (1 : Int32).toInt = 1 := rfl
  have q_2 : (2 : Int32).toInt = 2 := rfl
  have q_7 : (7 : Int32).toInt = 7 := rfl
  unfold w_X12_looped
  refine ok_X12_signAt (by omega) (by omega) (by omega) (rp_mono b0 (by omega) (by omega)) (fun r5 f1 f2 f3 => ?_)
  have j_40 : ((1 ≤ v_fault.toInt) ∨ (v_fault.toInt ≤ 0)) → w_X12_looped_40 p1 Q v_newNodes v_fault v_faultAt v_at v_items v_loopLeast v_loopMost v_newSort v_newValue v_newLeast v_newMost v_newFirst v_newNext v_newMany v_newPart := by
    intro f4
    unfold w_X12_looped_40
    exact hq p1 v_newNodes v_fault v_faultAt v_at v_items v_loopLeast v_loopMost v_newSort v_newValue v_newLeast v_newMost v_newFirst v_newNext v_newMany v_newPart (by omega) (by omega) (by omega) (by omega) (by omega) (by omega) (by omega) (by omega) (by omega) (by omega) (by omega) (by omega) (by omega) (by omega) (by omega)
  refine ⟨fun c13 => ?_, fun c13 => ?_⟩
  · have f5 : 0 < v_fault.toInt := i_lt (a := 0) (b := v_fault.toInt) rfl rfl c13
    exact j_40  (by omega)
  · have f6 : v_fault.toInt ≤ 0 := i_nlt (a := 0) (b := v_fault.toInt) rfl rfl c13
    have j_42 : ((1 ≤ v_fault.toInt) ∨ (v_at.toInt + 1 ≤ v_taped.toInt)) → w_X12_looped_42 p1 v_taped v_tape Q r5 v_newNodes v_fault v_faultAt v_at v_items v_loopLeast v_loopMost v_newSort v_newValue v_newLeast v_newMost v_newFirst v_newNext v_newMany v_newPart := by
      intro f7
      unfold w_X12_looped_42
      refine ok_X12_countItem (by omega) (by omega) (by omega) (fun r47_0 r47_1 r47_2 f8 f9 f10 f11 => ?_)
      have j_62 : ∀ (s0_62 : Int32), s0_62.toInt ≤ v_at.toInt + 1 → 0 ≤ s0_62.toInt → ((s0_62.toInt = 0) ∨ (s0_62.toInt = 1 ∧ r5.toInt = 43)) → w_X12_looped_62 p1 v_taped v_tape Q s0_62 r5 v_newNodes r47_0 r47_1 v_at r47_2 v_loopLeast v_loopMost v_newSort v_newValue v_newLeast v_newMost v_newFirst v_newNext v_newMany v_newPart := by
        intro s0_62 f12 f13 f14
        unfold w_X12_looped_62
        have j_77 : ∀ (s0_77 : Int32), s0_77.toInt ≤ v_at.toInt + 1 → ((s0_77.toInt + 1 = 0) ∨ (s0_77.toInt = 1 ∧ r5.toInt = 63)) → w_X12_looped_77 p1 v_taped v_tape Q s0_77 r5 v_newNodes r47_0 r47_1 v_at r47_2 s0_62 v_loopMost v_newSort v_newValue v_newLeast v_newMost v_newFirst v_newNext v_newMany v_newPart := by
          intro s0_77 f15 f16
          unfold w_X12_looped_77
          have j_165 : ∀ (v_fault_165 : Int32) (v_faultAt_165 : Int32) (v_at_165 : Int32) (v_loopLeast_165 : Int32) (v_loopMost_165 : Int32), v_fault.toInt ≤ v_fault_165.toInt → v_at.toInt ≤ v_at_165.toInt → v_at_165.toInt ≤ v_at.toInt + 6 → ((1 ≤ v_fault_165.toInt) ∨ (v_at_165.toInt ≤ v_taped.toInt)) → ((1 ≤ v_fault_165.toInt) ∨ (r47_2.toInt ≤ 100)) → ((1 ≤ v_fault_165.toInt) ∨ (v_at_165.toInt + 1 ≤ v_taped.toInt)) → ((v_fault_165.toInt = r47_0.toInt ∧ v_faultAt_165.toInt = r47_1.toInt ∧ v_at_165.toInt = v_at.toInt ∧ v_loopLeast_165.toInt = s0_62.toInt ∧ v_loopMost_165.toInt = s0_77.toInt) ∨ (r5.toInt = 123 ∧ v_at.toInt + 1 ≤ v_at_165.toInt ∧ v_at_165.toInt ≤ v_at.toInt + 6 ∧ v_at_165.toInt ≤ 200 ∧ v_fault.toInt ≤ v_fault_165.toInt)) → w_X12_looped_165 p1 v_taped v_tape Q v_newNodes v_fault_165 v_faultAt_165 v_at_165 r47_2 v_loopLeast_165 v_loopMost_165 v_newSort v_newValue v_newLeast v_newMost v_newFirst v_newNext v_newMany v_newPart := by
            intro v_fault_165 v_faultAt_165 v_at_165 v_loopLeast_165 v_loopMost_165 f17 f18 f19 f20 f21 f22 f23
            unfold w_X12_looped_165
            intro x171 ex171
            have f24 : x171.toInt = v_at_165.toInt + 1 := i_add (a := v_at_165.toInt) (b := 1) ex171 rfl rfl (by omega) (by omega)
            refine ok_X12_signAt (by omega) (by omega) (by omega) (rp_mono b0 (by omega) (by omega)) (fun r180 f25 f26 f27 => ?_)
            have j_210 : ∀ (s0_210 : Int32), s0_210.toInt ≤ v_at.toInt + 2 → 0 ≤ s0_210.toInt → ((s0_210.toInt ≤ 0) ∨ (x171.toInt + 1 ≤ v_taped.toInt)) → ((s0_210.toInt = 0) ∨ (s0_210.toInt = 2) ∨ (s0_210.toInt = 1 ∧ r180.toInt = 63)) → w_X12_looped_210 p1 Q s0_210 v_newNodes v_fault_165 v_faultAt_165 x171 r47_2 v_loopLeast_165 v_loopMost_165 v_newSort v_newValue v_newLeast v_newMost v_newFirst v_newNext v_newMany v_newPart := by
              intro s0_210 f28 f29 f30 f31
              unfold w_X12_looped_210
              have j_225 : ∀ (s0_225 : Int32), s0_225.toInt ≤ v_at.toInt + 1 → 0 ≤ s0_225.toInt → ((s0_225.toInt ≤ 0) ∨ (x171.toInt + 1 ≤ v_taped.toInt)) → ((s0_225.toInt = 0 ∧ s0_210.toInt ≤ 0) ∨ (s0_225.toInt = 1 ∧ 1 ≤ s0_210.toInt)) → w_X12_looped_225 p1 Q s0_225 x171 s0_210 v_newNodes v_fault_165 v_faultAt_165 x171 r47_2 v_loopLeast_165 v_loopMost_165 v_newSort v_newValue v_newLeast v_newMost v_newFirst v_newNext v_newMany v_newPart := by
                intro s0_225 f32 f33 f34 f35
                unfold w_X12_looped_225
                intro x225 ex225
                have f36 : x225.toInt = x171.toInt + s0_225.toInt := i_add (a := x171.toInt) (b := s0_225.toInt) ex225 rfl rfl (by omega) (by omega)
                refine ok_X12_holding (by omega) (by omega) (fun r234 r234_0 r234_1 r234_2 r234_3 r234_4 r234_5 r234_6 r234_7 r234_8 f37 f38 => ?_)
                refine ⟨i_in (by omega) (by omega), ?_⟩
                intro g249 eg249
                refine ⟨i_in (by omega) (by omega), ?_⟩
                intro g260 eg260
                exact hq r234 r234_0 v_fault_165 v_faultAt_165 x225 r47_2 v_loopLeast_165 v_loopMost_165 r234_1 r234_2 g249 g260 r234_5 r234_6 r234_7 r234_8 (by omega) (by omega) (by omega) (by omega) (by omega) (by omega) (by omega) (by omega) (by omega) (by omega) (by omega) (by omega) (by omega) (by omega) (by omega)
              refine ⟨fun c217 => ?_, fun c217 => ?_⟩
              · have f39 : s0_210.toInt ≤ 0 := i_le (a := s0_210.toInt) (b := 0) rfl rfl c217
                exact j_225 0 (by omega) (by omega) (by omega) (by omega)
              · have f40 : 0 < s0_210.toInt := i_nle (a := s0_210.toInt) (b := 0) rfl rfl c217
                exact j_225 1 (by omega) (by omega) (by omega) (by omega)
            refine ⟨fun c185 => ?_, fun c185 => ?_⟩
            · have f41 : r180.toInt ≠ 63 := i_ne (a := r180.toInt) (b := 63) rfl rfl c185
              refine ok_X12_signAt (by omega) (by omega) (by omega) (rp_mono b0 (by omega) (by omega)) (fun r197 f42 f43 f44 => ?_)
              refine ⟨fun c202 => ?_, fun c202 => ?_⟩
              · have f45 : r197.toInt ≠ 43 := i_ne (a := r197.toInt) (b := 43) rfl rfl c202
                exact j_210 0 (by omega) (by omega) (by omega) (by omega)
              · have f46 : r197.toInt = 43 := i_eq (a := r197.toInt) (b := 43) rfl rfl c202
                exact j_210 2 (by omega) (by omega) (by omega) (by omega)
            · have f47 : r180.toInt = 63 := i_eq (a := r180.toInt) (b := 63) rfl rfl c185
              exact j_210 1 (by omega) (by omega) (by omega) (by omega)
          refine ⟨fun c83 => ?_, fun c83 => ?_⟩
          · have f48 : r5.toInt ≠ 123 := i_ne (a := r5.toInt) (b := 123) rfl rfl c83
            exact j_165 r47_0 r47_1 v_at s0_62 s0_77 (by omega) (by omega) (by omega) (by omega) (by omega) (by omega) (by omega)
          · have f49 : r5.toInt = 123 := i_eq (a := r5.toInt) (b := 123) rfl rfl c83
            intro x92 ex92
            have f50 : x92.toInt = v_at.toInt + 1 := i_add (a := v_at.toInt) (b := 1) ex92 rfl rfl (by omega) (by omega)
            refine ok_X12_numberFrom (by omega) (by omega) (by omega) (by omega) (by omega) (by omega) (by omega) (rp_mono b0 (by omega) (by omega)) (fun r94 r94_0 r94_1 r94_2 r94_3 f51 f52 f53 f54 => ?_)
            have j_144 : ∀ (l3_144 : Int32) (v_fault_144 : Int32) (v_faultAt_144 : Int32) (v_loopLeast_144 : Int32) (v_loopMost_144 : Int32), v_at.toInt + 1 ≤ l3_144.toInt → l3_144.toInt ≤ v_at.toInt + 6 → v_fault.toInt ≤ v_fault_144.toInt → ((1 ≤ v_fault_144.toInt) ∨ (r47_2.toInt ≤ 100)) → l3_144.toInt ≤ 200 → w_X12_looped_144 p1 v_taped v_tape Q l3_144 v_newNodes v_fault_144 v_faultAt_144 v_at r47_2 v_loopLeast_144 v_loopMost_144 v_newSort v_newValue v_newLeast v_newMost v_newFirst v_newNext v_newMany v_newPart := by
              intro l3_144 v_fault_144 v_faultAt_144 v_loopLeast_144 v_loopMost_144 f55 f56 f57 f58 f59
              unfold w_X12_looped_144
              refine ok_X12_signAt (by omega) (by omega) (by omega) (rp_mono b0 (by omega) (by omega)) (fun r146 f60 f61 f62 => ?_)
              have j_160 : ∀ (v_fault_160 : Int32) (v_faultAt_160 : Int32), v_fault.toInt ≤ v_fault_160.toInt → ((1 ≤ v_fault_160.toInt) ∨ (r47_2.toInt ≤ 100)) → ((1 ≤ v_fault_160.toInt) ∨ (l3_144.toInt + 1 ≤ v_taped.toInt)) → ((v_fault_160.toInt = v_fault_144.toInt ∧ r146.toInt = 125) ∨ (v_fault_144.toInt ≤ v_fault_160.toInt ∧ 1 ≤ v_fault_160.toInt)) → w_X12_looped_160 p1 v_taped v_tape Q l3_144 v_newNodes v_fault_160 v_faultAt_160 v_at r47_2 v_loopLeast_144 v_loopMost_144 v_newSort v_newValue v_newLeast v_newMost v_newFirst v_newNext v_newMany v_newPart := by
                intro v_fault_160 v_faultAt_160 f63 f64 f65 f66
                unfold w_X12_looped_160
                exact j_165 v_fault_160 v_faultAt_160 l3_144 v_loopLeast_144 v_loopMost_144 (by omega) (by omega) (by omega) (by omega) (by omega) (by omega) (by omega)
              refine ⟨fun c151 => ?_, fun c151 => ?_⟩
              · have f67 : r146.toInt = 125 := i_eq (a := r146.toInt) (b := 125) rfl rfl c151
                exact j_160 v_fault_144 v_faultAt_144 (by omega) (by omega) (by omega) (by omega)
              · have f68 : r146.toInt ≠ 125 := i_ne (a := r146.toInt) (b := 125) rfl rfl c151
                refine ok_X12_fail (by omega) (by omega) (by omega) (fun r157_0 r157_1 f69 f70 f71 => ?_)
                exact j_160 r157_0 r157_1 (by omega) (by omega) (by omega) (by omega)
            refine ⟨fun c102 => ?_, fun c102 => ?_⟩
            · have f72 : r94_0.toInt ≠ 0 := i_ne (a := r94_0.toInt) (b := 0) rfl rfl c102
              exact j_144 r94 r94_0 r94_1 r94_2 r94_3 (by omega) (by omega) (by omega) (by omega) (by omega)
            · have f73 : r94_0.toInt = 0 := i_eq (a := r94_0.toInt) (b := 0) rfl rfl c102
              refine ok_X12_signAt (by omega) (by omega) (by omega) (rp_mono b0 (by omega) (by omega)) (fun r107 f74 f75 f76 => ?_)
              refine ⟨fun c112 => ?_, fun c112 => ?_⟩
              · have f77 : r107.toInt ≠ 44 := i_ne (a := r107.toInt) (b := 44) rfl rfl c112
                exact j_144 r94 r94_0 r94_1 r94_2 r94_3 (by omega) (by omega) (by omega) (by omega) (by omega)
              · have f78 : r107.toInt = 44 := i_eq (a := r107.toInt) (b := 44) rfl rfl c112
                intro x115 ex115
                have f79 : x115.toInt = r94.toInt + 1 := i_add (a := r94.toInt) (b := 1) ex115 rfl rfl (by omega) (by omega)
                refine ok_X12_signAt (by omega) (by omega) (by omega) (rp_mono b0 (by omega) (by omega)) (fun r120 f80 f81 f82 => ?_)
                refine ok_X12_isDigit  (fun r123 f83 f84 f85 f86 f87 => ?_)
                refine ⟨fun c126 => ?_, fun c126 => ?_⟩
                · have f88 : r123.toInt = 0 := i_eq (a := r123.toInt) (b := 0) rfl rfl c126
                  exact j_144 x115 r94_0 r94_1 r94_2 (-1) (by omega) (by omega) (by omega) (by omega) (by omega)
                · have f89 : r123.toInt ≠ 0 := i_ne (a := r123.toInt) (b := 0) rfl rfl c126
                  refine ok_X12_numberFrom (by omega) (by omega) (by omega) (by omega) (by omega) (by omega) (by omega) (rp_mono b0 (by omega) (by omega)) (fun r132 r132_0 r132_1 r132_2 r132_3 f90 f91 f92 f93 => ?_)
                  exact j_144 r132 r132_0 r132_1 r132_2 r132_3 (by omega) (by omega) (by omega) (by omega) (by omega)
        refine ⟨fun c69 => ?_, fun c69 => ?_⟩
        · have f94 : r5.toInt ≠ 63 := i_ne (a := r5.toInt) (b := 63) rfl rfl c69
          exact j_77 (-1) (by omega) (by omega)
        · have f95 : r5.toInt = 63 := i_eq (a := r5.toInt) (b := 63) rfl rfl c69
          exact j_77 1 (by omega) (by omega)
      refine ⟨fun c54 => ?_, fun c54 => ?_⟩
      · have f96 : r5.toInt ≠ 43 := i_ne (a := r5.toInt) (b := 43) rfl rfl c54
        exact j_62 0 (by omega) (by omega) (by omega)
      · have f97 : r5.toInt = 43 := i_eq (a := r5.toInt) (b := 43) rfl rfl c54
        exact j_62 1 (by omega) (by omega) (by omega)
    refine ⟨fun c19 => ?_, fun c19 => ?_⟩
    · have f98 : r5.toInt = 42 := i_eq (a := r5.toInt) (b := 42) rfl rfl c19
      exact j_42  (by omega)
    · have f99 : r5.toInt ≠ 42 := i_ne (a := r5.toInt) (b := 42) rfl rfl c19
      refine ⟨fun c25 => ?_, fun c25 => ?_⟩
      · have f100 : r5.toInt = 43 := i_eq (a := r5.toInt) (b := 43) rfl rfl c25
        exact j_42  (by omega)
      · have f101 : r5.toInt ≠ 43 := i_ne (a := r5.toInt) (b := 43) rfl rfl c25
        refine ⟨fun c31 => ?_, fun c31 => ?_⟩
        · have f102 : r5.toInt = 63 := i_eq (a := r5.toInt) (b := 63) rfl rfl c31
          exact j_42  (by omega)
        · have f103 : r5.toInt ≠ 63 := i_ne (a := r5.toInt) (b := 63) rfl rfl c31
          refine ⟨fun c37 => ?_, fun c37 => ?_⟩
          · have f104 : r5.toInt = 123 := i_eq (a := r5.toInt) (b := 123) rfl rfl c37
            exact j_42  (by omega)
          · have f105 : r5.toInt ≠ 123 := i_ne (a := r5.toInt) (b := 123) rfl rfl c37
            exact j_40  (by omega)
set_option maxHeartbeats 4000000 in
theorem ok_X12_captureOf {p1 : Int32} {v_newCaptures : Int32} {v_newNames : Nat → Int32} {Q : Int32 → Prop} (a0 : 0 ≤ v_newCaptures.toInt) (a1 : v_newCaptures.toInt ≤ 9) (hq : ∀ (r : Int32), 0 ≤ r.toInt + 1 → 0 ≤ r.toInt → r.toInt ≤ 9 → r.toInt ≤ v_newCaptures.toInt → r.toInt ≤ v_newCaptures.toInt + 1 → ((r.toInt ≤ 0) ∨ (1 ≤ r.toInt)) → Q r) : w_X12_captureOf p1 v_newCaptures v_newNames Q := by
  have q_t : (bz true).toInt = 1 := rfl
  have q_f : (bz false).toInt = 0 := rfl
  unfold w_X12_captureOf
  have j_5 : ∀ n_5 : Nat, ∀ (l2_5 : Int32), 0 ≤ l2_5.toInt → l2_5.toInt ≤ v_newCaptures.toInt → (l2_5.toInt + 2147483649).toNat < n_5 → w_X12_captureOf_5 p1 v_newNames Q n_5 l2_5 := by
    intro n_5
    induction n_5 with
    | zero =>
      intro l2_5 f1 f2 hm_5
      exfalso; omega
    | succ n_5 ih_5 =>
      intro l2_5 f1 f2 hm_5
      unfold w_X12_captureOf_5
      unfold w_X12_captureOf_5B
      have j_25 : ((l2_5.toInt ≤ 0) ∨ (1 ≤ l2_5.toInt)) → w_X12_captureOf_25 Q l2_5 := by
        intro f3
        unfold w_X12_captureOf_25
        exact hq l2_5 (by omega) (by omega) (by omega) (by omega) (by omega) (by omega)
      refine ⟨fun c6 => ?_, fun c6 => ?_⟩
      · have f4 : l2_5.toInt ≤ 0 := i_le (a := l2_5.toInt) (b := 0) rfl rfl c6
        exact j_25  (by omega)
      · have f5 : 0 < l2_5.toInt := i_nle (a := l2_5.toInt) (b := 0) rfl rfl c6
        refine ⟨i_in (by omega) (by omega), ?_⟩
        intro x14 ex14
        refine ⟨fun c16 => ?_, fun c16 => ?_⟩
        · have f6 : x14.toInt = p1.toInt := i_eq (a := x14.toInt) (b := p1.toInt) rfl rfl c16
          exact j_25  (by omega)
        · have f7 : x14.toInt ≠ p1.toInt := i_ne (a := x14.toInt) (b := p1.toInt) rfl rfl c16
          intro x19 ex19
          have f8 : x19.toInt = l2_5.toInt + (-1) := i_add (a := l2_5.toInt) (b := (-1)) ex19 rfl rfl (by omega) (by omega)
          exact ih_5 x19 (by omega) (by omega) (by have h8_0 := i_rng l2_5; have h8_1 := i_rng x19; omega)
  exact ⟨(v_newCaptures.toInt + 2147483649).toNat + 1, j_5   ((v_newCaptures.toInt + 2147483649).toNat + 1) v_newCaptures (by omega) (by omega) (by omega)⟩
set_option maxHeartbeats 4000000 in
theorem ok_X12_addPart {p1 : Int32} {p2 : Int32} {v_newParts : Int32} {v_newBegin : Nat → Int32} {v_newEnd : Nat → Int32} {Q : Int32 → (Nat → Int32) → (Nat → Int32) → Prop} (a0 : 0 ≤ v_newParts.toInt) (a1 : v_newParts.toInt ≤ 419) (hq : ∀ (ov_newParts : Int32) (ov_newBegin : Nat → Int32) (ov_newEnd : Nat → Int32), ov_newParts.toInt = v_newParts.toInt + 1 → Q ov_newParts ov_newBegin ov_newEnd) : w_X12_addPart p1 p2 v_newParts v_newBegin v_newEnd Q := by
  have q_t : (bz true).toInt = 1 := rfl
  have q_f : (bz false).toInt = 0 := rfl
  unfold w_X12_addPart
  refine ⟨i_in (by omega) (by omega), ?_⟩
  intro g9 eg9
  refine ⟨i_in (by omega) (by omega), ?_⟩
  intro g19 eg19
  intro x26 ex26
  have f1 : x26.toInt = v_newParts.toInt + 1 := i_add (a := v_newParts.toInt) (b := 1) ex26 rfl rfl (by omega) (by omega)
  exact hq x26 g9 g19 (by omega)
set_option maxHeartbeats 4000000 in
theorem ok_X12_joinParts {p1 : Int32} {v_newParts : Int32} {v_newBegin : Nat → Int32} {v_newEnd : Nat → Int32} {Q : Int32 → (Nat → Int32) → (Nat → Int32) → Prop} (a0 : 0 ≤ p1.toInt) (a1 : p1.toInt ≤ v_newParts.toInt) (a2 : 0 ≤ v_newParts.toInt) (a3 : v_newParts.toInt ≤ 420) (hq : ∀ (ov_newParts : Int32) (ov_newBegin : Nat → Int32) (ov_newEnd : Nat → Int32), 0 ≤ ov_newParts.toInt + 1 → 0 ≤ ov_newParts.toInt → ov_newParts.toInt ≤ 420 → p1.toInt ≤ ov_newParts.toInt → ov_newParts.toInt ≤ v_newParts.toInt → ov_newParts.toInt ≤ v_newParts.toInt + 1 → Q ov_newParts ov_newBegin ov_newEnd) : w_X12_joinParts p1 v_newParts v_newBegin v_newEnd Q := by
  have q_t : (bz true).toInt = 1 := rfl
  have q_f : (bz false).toInt = 0 := rfl
  unfold w_X12_joinParts
  intro x2 ex2
  have f1 : x2.toInt = p1.toInt + 1 := i_add (a := p1.toInt) (b := 1) ex2 rfl rfl (by omega) (by omega)
  have j_4 : ∀ n_4 : Nat, ∀ (l2_4 : Int32) (v_newBegin_4 : Nat → Int32) (v_newEnd_4 : Nat → Int32), x2.toInt ≤ l2_4.toInt → l2_4.toInt ≤ v_newParts.toInt + 1 → ((-1) * l2_4.toInt + 2147483648).toNat < n_4 → w_X12_joinParts_4 p1 Q v_newParts n_4 l2_4 v_newBegin_4 v_newEnd_4 := by
    intro n_4
    induction n_4 with
    | zero =>
      intro l2_4 v_newBegin_4 v_newEnd_4 f2 f3 hm_4
      exfalso; omega
    | succ n_4 ih_4 =>
      intro l2_4 v_newBegin_4 v_newEnd_4 f2 f3 hm_4
      unfold w_X12_joinParts_4
      unfold w_X12_joinParts_4B
      refine ⟨fun c9 => ?_, fun c9 => ?_⟩
      · have f4 : v_newParts.toInt ≤ l2_4.toInt := i_le (a := v_newParts.toInt) (b := l2_4.toInt) rfl rfl c9
        have j_114 : ∀ n_114 : Nat, ∀ (l2_114 : Int32) (l3_114 : Int32) (v_newBegin_114 : Nat → Int32) (v_newEnd_114 : Nat → Int32), p1.toInt ≤ l2_114.toInt → l2_114.toInt ≤ l3_114.toInt → l3_114.toInt ≤ v_newParts.toInt → ((-1) * l3_114.toInt + 2147483648).toNat < n_114 → w_X12_joinParts_114 p1 Q v_newParts n_114 l2_114 l3_114 v_newBegin_114 v_newEnd_114 := by
          intro n_114
          induction n_114 with
          | zero =>
            intro l2_114 l3_114 v_newBegin_114 v_newEnd_114 f5 f6 f7 hm_114
            exfalso; omega
          | succ n_114 ih_114 =>
            intro l2_114 l3_114 v_newBegin_114 v_newEnd_114 f5 f6 f7 hm_114
            unfold w_X12_joinParts_114
            unfold w_X12_joinParts_114B
            refine ⟨fun c119 => ?_, fun c119 => ?_⟩
            · have f8 : v_newParts.toInt ≤ l3_114.toInt := i_le (a := v_newParts.toInt) (b := l3_114.toInt) rfl rfl c119
              exact hq l2_114 v_newBegin_114 v_newEnd_114 (by omega) (by omega) (by omega) (by omega) (by omega) (by omega)
            · have f9 : l3_114.toInt < v_newParts.toInt := i_nle (a := v_newParts.toInt) (b := l3_114.toInt) rfl rfl c119
              have j_218 : ∀ (l2_218 : Int32) (v_newBegin_218 : Nat → Int32) (v_newEnd_218 : Nat → Int32), l2_114.toInt ≤ l2_218.toInt → l2_218.toInt ≤ l2_114.toInt + 1 → ((l2_218.toInt = l2_114.toInt ∧ p1.toInt + 1 ≤ l2_114.toInt) ∨ (l2_218.toInt = l2_114.toInt + 1)) → w_X12_joinParts_218 Q (w_X12_joinParts_114 p1 Q v_newParts n_114) l2_218 l3_114 v_newBegin_218 v_newEnd_218 := by
                intro l2_218 v_newBegin_218 v_newEnd_218 f10 f11 f12
                unfold w_X12_joinParts_218
                intro x218 ex218
                have f13 : x218.toInt = l3_114.toInt + 1 := i_add (a := l3_114.toInt) (b := 1) ex218 rfl rfl (by omega) (by omega)
                exact ih_114 l2_218 x218 v_newBegin_218 v_newEnd_218 (by omega) (by omega) (by omega) (by have h8_0 := i_rng l3_114; have h8_1 := i_rng x218; omega)
              have j_191 : ((l2_114.toInt ≤ p1.toInt) ∨ (p1.toInt + 1 ≤ l2_114.toInt)) → w_X12_joinParts_191 Q (w_X12_joinParts_114 p1 Q v_newParts n_114) l2_114 l3_114 v_newBegin_114 v_newEnd_114 := by
                intro f14
                unfold w_X12_joinParts_191
                refine ⟨i_in (by omega) (by omega), ?_⟩
                intro x201 ex201
                refine ⟨i_in (by omega) (by omega), ?_⟩
                intro g202 eg202
                refine ⟨i_in (by omega) (by omega), ?_⟩
                intro x213 ex213
                refine ⟨i_in (by omega) (by omega), ?_⟩
                intro g214 eg214
                intro x215 ex215
                have f15 : x215.toInt = l2_114.toInt + 1 := i_add (a := l2_114.toInt) (b := 1) ex215 rfl rfl (by omega) (by omega)
                exact j_218 x215 g202 g214 (by omega) (by omega) (by omega)
              refine ⟨fun c124 => ?_, fun c124 => ?_⟩
              · have f16 : l2_114.toInt ≤ p1.toInt := i_le (a := l2_114.toInt) (b := p1.toInt) rfl rfl c124
                exact j_191  (by omega)
              · have f17 : p1.toInt < l2_114.toInt := i_nle (a := l2_114.toInt) (b := p1.toInt) rfl rfl c124
                refine ⟨i_in (by omega) (by omega), ?_⟩
                intro x132 ex132
                intro x139 ex139
                have f18 : x139.toInt = l2_114.toInt - 1 := i_sub (a := l2_114.toInt) (b := 1) ex139 rfl rfl (by omega) (by omega)
                refine ⟨i_in (by omega) (by omega), ?_⟩
                intro x140 ex140
                intro x142 ex142
                refine ⟨fun c143 => ?_, fun c143 => ?_⟩
                · have f19 : x142.toInt < x132.toInt := i_lt (a := x142.toInt) (b := x132.toInt) rfl rfl c143
                  exact j_191  (by omega)
                · have f20 : x132.toInt ≤ x142.toInt := i_nlt (a := x142.toInt) (b := x132.toInt) rfl rfl c143
                  intro x152 ex152
                  have f21 : x152.toInt = l2_114.toInt - 1 := i_sub (a := l2_114.toInt) (b := 1) ex152 rfl rfl (by omega) (by omega)
                  refine ⟨i_in (by omega) (by omega), ?_⟩
                  intro x158 ex158
                  intro x165 ex165
                  have f22 : x165.toInt = l2_114.toInt - 1 := i_sub (a := l2_114.toInt) (b := 1) ex165 rfl rfl (by omega) (by omega)
                  refine ⟨i_in (by omega) (by omega), ?_⟩
                  intro x166 ex166
                  have j_187 : ∀ (s0_187 : Int32), w_X12_joinParts_187 Q (w_X12_joinParts_114 p1 Q v_newParts n_114) s0_187 x152 l2_114 l3_114 v_newBegin_114 v_newEnd_114 := by
                    intro s0_187
                    unfold w_X12_joinParts_187
                    refine ⟨i_in (by omega) (by omega), ?_⟩
                    intro g187 eg187
                    exact j_218 l2_114 v_newBegin_114 g187 (by omega) (by omega) (by omega)
                  refine ⟨fun c167 => ?_, fun c167 => ?_⟩
                  · have f23 : x158.toInt ≤ x166.toInt := i_le (a := x158.toInt) (b := x166.toInt) rfl rfl c167
                    intro x185 ex185
                    have f24 : x185.toInt = l2_114.toInt - 1 := i_sub (a := l2_114.toInt) (b := 1) ex185 rfl rfl (by omega) (by omega)
                    refine ⟨i_in (by omega) (by omega), ?_⟩
                    intro x186 ex186
                    exact j_187 x186 
                  · have f25 : x166.toInt < x158.toInt := i_nle (a := x158.toInt) (b := x166.toInt) rfl rfl c167
                    refine ⟨i_in (by omega) (by omega), ?_⟩
                    intro x175 ex175
                    have f26 : x175.toInt = x158.toInt := congrArg Int32.toInt (ex175.trans ex158.symm)
                    exact j_187 x175 
        exact ⟨((-1) * p1.toInt + 2147483648).toNat + 1, j_114   (((-1) * p1.toInt + 2147483648).toNat + 1) p1 p1 v_newBegin_4 v_newEnd_4 (by omega) (by omega) (by omega) (by omega)⟩
      · have f27 : l2_4.toInt < v_newParts.toInt := i_nle (a := v_newParts.toInt) (b := l2_4.toInt) rfl rfl c9
        refine ⟨i_in (by omega) (by omega), ?_⟩
        intro x17 ex17
        refine ⟨i_in (by omega) (by omega), ?_⟩
        intro x24 ex24
        have j_30 : ∀ n_30 : Nat, ∀ (l5_30 : Int32) (v_newBegin_30 : Nat → Int32) (v_newEnd_30 : Nat → Int32), l5_30.toInt ≤ l2_4.toInt → p1.toInt ≤ l5_30.toInt → (l5_30.toInt + 2147483649).toNat < n_30 → w_X12_joinParts_30 p1 Q (w_X12_joinParts_4 p1 Q v_newParts n_4) l2_4 x17 x24 n_30 l5_30 v_newBegin_30 v_newEnd_30 := by
          intro n_30
          induction n_30 with
          | zero =>
            intro l5_30 v_newBegin_30 v_newEnd_30 f28 f29 hm_30
            exfalso; omega
          | succ n_30 ih_30 =>
            intro l5_30 v_newBegin_30 v_newEnd_30 f28 f29 hm_30
            unfold w_X12_joinParts_30
            unfold w_X12_joinParts_30B
            have j_87 : ((l5_30.toInt ≤ p1.toInt) ∨ (p1.toInt + 1 ≤ l5_30.toInt)) → w_X12_joinParts_87 Q (w_X12_joinParts_4 p1 Q v_newParts n_4) l2_4 x17 x24 l5_30 v_newBegin_30 v_newEnd_30 := by
              intro f30
              unfold w_X12_joinParts_87
              refine ⟨i_in (by omega) (by omega), ?_⟩
              intro g94 eg94
              refine ⟨i_in (by omega) (by omega), ?_⟩
              intro g103 eg103
              intro x104 ex104
              have f31 : x104.toInt = l2_4.toInt + 1 := i_add (a := l2_4.toInt) (b := 1) ex104 rfl rfl (by omega) (by omega)
              exact ih_4 x104 g94 g103 (by omega) (by omega) (by have h8_0 := i_rng l2_4; have h8_1 := i_rng x104; omega)
            refine ⟨fun c33 => ?_, fun c33 => ?_⟩
            · have f32 : l5_30.toInt ≤ p1.toInt := i_le (a := l5_30.toInt) (b := p1.toInt) rfl rfl c33
              exact j_87  (by omega)
            · have f33 : p1.toInt < l5_30.toInt := i_nle (a := l5_30.toInt) (b := p1.toInt) rfl rfl c33
              intro x43 ex43
              have f34 : x43.toInt = l5_30.toInt - 1 := i_sub (a := l5_30.toInt) (b := 1) ex43 rfl rfl (by omega) (by omega)
              refine ⟨i_in (by omega) (by omega), ?_⟩
              intro x44 ex44
              refine ⟨fun c46 => ?_, fun c46 => ?_⟩
              · have f35 : x44.toInt ≤ x17.toInt := i_le (a := x44.toInt) (b := x17.toInt) rfl rfl c46
                exact j_87  (by omega)
              · have f36 : x17.toInt < x44.toInt := i_nle (a := x44.toInt) (b := x17.toInt) rfl rfl c46
                intro x62 ex62
                have f37 : x62.toInt = l5_30.toInt - 1 := i_sub (a := l5_30.toInt) (b := 1) ex62 rfl rfl (by omega) (by omega)
                refine ⟨i_in (by omega) (by omega), ?_⟩
                intro x63 ex63
                refine ⟨i_in (by omega) (by omega), ?_⟩
                intro g64 eg64
                intro x78 ex78
                have f38 : x78.toInt = l5_30.toInt - 1 := i_sub (a := l5_30.toInt) (b := 1) ex78 rfl rfl (by omega) (by omega)
                refine ⟨i_in (by omega) (by omega), ?_⟩
                intro x79 ex79
                refine ⟨i_in (by omega) (by omega), ?_⟩
                intro g80 eg80
                intro x81 ex81
                have f39 : x81.toInt = l5_30.toInt + (-1) := i_add (a := l5_30.toInt) (b := (-1)) ex81 rfl rfl (by omega) (by omega)
                exact ih_30 x81 g64 g80 (by omega) (by omega) (by have h8_0 := i_rng l5_30; have h8_1 := i_rng x81; omega)
        exact ⟨(l2_4.toInt + 2147483649).toNat + 1, j_30   ((l2_4.toInt + 2147483649).toNat + 1) l2_4 v_newBegin_4 v_newEnd_4 (by omega) (by omega) (by omega)⟩
  exact ⟨((-1) * x2.toInt + 2147483648).toNat + 1, j_4   (((-1) * x2.toInt + 2147483648).toNat + 1) x2 v_newBegin v_newEnd (by omega) (by omega) (by omega)⟩
set_option maxHeartbeats 4000000 in
theorem ok_X12_setNode {p1 : Int32} {p2 : Int32} {v_newNodes : Int32} {v_newParts : Int32} {v_newSort : Nat → Int32} {v_newValue : Nat → Int32} {v_newLeast : Nat → Int32} {v_newMost : Nat → Int32} {v_newFirst : Nat → Int32} {v_newNext : Nat → Int32} {v_newMany : Nat → Int32} {v_newPart : Nat → Int32} {v_newBegin : Nat → Int32} {v_newEnd : Nat → Int32} {Q : Int32 → Int32 → Int32 → (Nat → Int32) → (Nat → Int32) → (Nat → Int32) → (Nat → Int32) → (Nat → Int32) → (Nat → Int32) → (Nat → Int32) → (Nat → Int32) → (Nat → Int32) → (Nat → Int32) → Prop} (a0 : 0 ≤ p2.toInt) (a1 : p2.toInt ≤ 1) (a2 : 0 ≤ p1.toInt) (a3 : p1.toInt ≤ v_newParts.toInt) (a4 : 0 ≤ v_newParts.toInt) (a5 : v_newParts.toInt ≤ 420) (a6 : 0 ≤ v_newNodes.toInt) (a7 : v_newNodes.toInt ≤ 259) (hq : ∀ (r : Int32) (ov_newNodes : Int32) (ov_newParts : Int32) (ov_newSort : Nat → Int32) (ov_newValue : Nat → Int32) (ov_newLeast : Nat → Int32) (ov_newMost : Nat → Int32) (ov_newFirst : Nat → Int32) (ov_newNext : Nat → Int32) (ov_newMany : Nat → Int32) (ov_newPart : Nat → Int32) (ov_newBegin : Nat → Int32) (ov_newEnd : Nat → Int32), 0 ≤ ov_newParts.toInt + 1 → 0 ≤ ov_newParts.toInt → ov_newParts.toInt ≤ 420 → p1.toInt ≤ ov_newParts.toInt → ov_newParts.toInt ≤ v_newParts.toInt → ov_newParts.toInt ≤ v_newParts.toInt + 1 → r.toInt = v_newNodes.toInt → ov_newNodes.toInt = v_newNodes.toInt + 1 → Q r ov_newNodes ov_newParts ov_newSort ov_newValue ov_newLeast ov_newMost ov_newFirst ov_newNext ov_newMany ov_newPart ov_newBegin ov_newEnd) : w_X12_setNode p1 p2 v_newNodes v_newParts v_newSort v_newValue v_newLeast v_newMost v_newFirst v_newNext v_newMany v_newPart v_newBegin v_newEnd Q := by
  have q_t : (bz true).toInt = 1 := rfl
  have q_f : (bz false).toInt = 0 := rfl
  have q_0 : (0 : Int32).toInt = 0 := rfl
  have q_1 : (1 : Int32).toInt = 1 := rfl
  have q_2 : (2 : Int32).toInt = 2 := rfl
  unfold w_X12_setNode
  refine ok_X12_joinParts (by omega) (by omega) (by omega) (by omega) (fun r2_0 r2_1 r2_2 f1 f2 f3 f4 f5 f6 => ?_)
  have j_16 : ∀ (s0_16 : Int32), ((s0_16.toInt = 0 ∧ p2.toInt = 0) ∨ (s0_16.toInt = 1)) → w_X12_setNode_16 p1 Q s0_16 2 v_newNodes r2_0 v_newSort v_newValue v_newLeast v_newMost v_newFirst v_newNext v_newMany v_newPart r2_1 r2_2 := by
    intro s0_16 f7
    unfold w_X12_setNode_16
    refine ok_X12_made (by omega) (by omega) (fun r16 r16_0 r16_1 r16_2 r16_3 r16_4 r16_5 r16_6 r16_7 r16_8 f8 f9 => ?_)
    refine ⟨i_in (by omega) (by omega), ?_⟩
    intro g26 eg26
    intro x37 ex37
    have f10 : x37.toInt = r2_0.toInt - p1.toInt := i_sub (a := r2_0.toInt) (b := p1.toInt) ex37 rfl rfl (by omega) (by omega)
    refine ⟨i_in (by omega) (by omega), ?_⟩
    intro g38 eg38
    exact hq r16 r16_0 r2_0 r16_1 r16_2 r16_3 r16_4 r16_5 r16_6 g38 g26 r2_1 r2_2 (by omega) (by omega) (by omega) (by omega) (by omega) (by omega) (by omega) (by omega)
  refine ⟨fun c8 => ?_, fun c8 => ?_⟩
  · have f11 : p2.toInt = 0 := i_eq (a := p2.toInt) (b := 0) rfl rfl c8
    exact j_16 0 (by omega)
  · have f12 : p2.toInt ≠ 0 := i_ne (a := p2.toInt) (b := 0) rfl rfl c8
    exact j_16 1 (by omega)
set_option maxHeartbeats 4000000 in
theorem ok_X12_member {p1 : Int32} {v_taped : Int32} {v_fault : Int32} {v_faultAt : Int32} {v_tape : Nat → Int32} {Q : Int32 → Int32 → Int32 → Int32 → Prop} (a0 : 0 ≤ v_taped.toInt) (a1 : v_taped.toInt ≤ 200) (a2 : 0 ≤ p1.toInt) (a3 : p1.toInt ≤ 1000) (a4 : 0 ≤ v_fault.toInt) (b0 : rp (fun k v => 0 ≤ v ∧ v ≤ 126) v_tape 0 200) (hq : ∀ (ov_fault : Int32) (ov_faultAt : Int32) (ov_memberValue : Int32) (ov_memberEnd : Int32), v_fault.toInt ≤ ov_fault.toInt → ((1 ≤ ov_fault.toInt) ∨ (ov_memberEnd.toInt ≤ v_taped.toInt)) → ((p1.toInt + 1 ≤ v_taped.toInt) ∨ (1 ≤ ov_fault.toInt)) → ov_memberEnd.toInt ≤ p1.toInt + 6 → p1.toInt + 1 ≤ ov_memberEnd.toInt → ov_memberEnd.toInt ≤ 1001 → Q ov_fault ov_faultAt ov_memberValue ov_memberEnd) : w_X12_member p1 v_taped v_fault v_faultAt v_tape Q := by
  have q_t : (bz true).toInt = 1 := rfl
  have q_f : (bz false).toInt = 0 := rfl
  have q_1 : (1 : Int32).toInt = 1 := rfl
  unfold w_X12_member
  refine ok_X12_signAt (by omega) (by omega) (by omega) (rp_mono b0 (by omega) (by omega)) (fun r2 f1 f2 f3 => ?_)
  intro x14 ex14
  have f4 : x14.toInt = p1.toInt + 1 := i_add (a := p1.toInt) (b := 1) ex14 rfl rfl (by omega) (by omega)
  have j_137 : ∀ (v_fault_137 : Int32) (v_faultAt_137 : Int32) (v_memberValue_137 : Int32) (v_memberEnd_137 : Int32), v_fault.toInt ≤ v_fault_137.toInt → ((1 ≤ v_fault_137.toInt) ∨ (v_memberEnd_137.toInt ≤ v_taped.toInt)) → ((p1.toInt + 1 ≤ v_taped.toInt) ∨ (1 ≤ v_fault_137.toInt)) → v_memberEnd_137.toInt ≤ p1.toInt + 6 → p1.toInt + 1 ≤ v_memberEnd_137.toInt → v_memberEnd_137.toInt ≤ 1001 → w_X12_member_137 Q v_fault_137 v_faultAt_137 v_memberValue_137 v_memberEnd_137 := by
    intro v_fault_137 v_faultAt_137 v_memberValue_137 v_memberEnd_137 f5 f6 f7 f8 f9 f10
    unfold w_X12_member_137
    exact hq v_fault_137 v_faultAt_137 v_memberValue_137 v_memberEnd_137 (by omega) (by omega) (by omega) (by omega) (by omega) (by omega)
  have j_47 : w_X12_member_47 p1 Q v_fault v_faultAt r2 x14 := by
    unfold w_X12_member_47
    refine ok_X12_fail (by omega) (by omega) (by omega) (fun r50_0 r50_1 f11 f12 f13 => ?_)
    exact j_137 r50_0 r50_1 r2 x14 (by omega) (by omega) (by omega) (by omega) (by omega) (by omega)
  refine ⟨fun c20 => ?_, fun c20 => ?_⟩
  · have f14 : r2.toInt = (-1) := i_eq (a := r2.toInt) (b := (-1)) rfl rfl c20
    exact j_47  
  · have f15 : r2.toInt ≠ (-1) := i_ne (a := r2.toInt) (b := (-1)) rfl rfl c20
    refine ⟨fun c26 => ?_, fun c26 => ?_⟩
    · have f16 : r2.toInt = 91 := i_eq (a := r2.toInt) (b := 91) rfl rfl c26
      exact j_47  
    · have f17 : r2.toInt ≠ 91 := i_ne (a := r2.toInt) (b := 91) rfl rfl c26
      refine ⟨fun c32 => ?_, fun c32 => ?_⟩
      · have f18 : r2.toInt = 93 := i_eq (a := r2.toInt) (b := 93) rfl rfl c32
        exact j_47  
      · have f19 : r2.toInt ≠ 93 := i_ne (a := r2.toInt) (b := 93) rfl rfl c32
        refine ⟨fun c38 => ?_, fun c38 => ?_⟩
        · have f20 : r2.toInt = 94 := i_eq (a := r2.toInt) (b := 94) rfl rfl c38
          exact j_47  
        · have f21 : r2.toInt ≠ 94 := i_ne (a := r2.toInt) (b := 94) rfl rfl c38
          refine ⟨fun c44 => ?_, fun c44 => ?_⟩
          · have f22 : r2.toInt ≠ 45 := i_ne (a := r2.toInt) (b := 45) rfl rfl c44
            refine ⟨fun c59 => ?_, fun c59 => ?_⟩
            · have f23 : r2.toInt ≠ 92 := i_ne (a := r2.toInt) (b := 92) rfl rfl c59
              exact j_137 v_fault v_faultAt r2 x14 (by omega) (by omega) (by omega) (by omega) (by omega) (by omega)
            · have f24 : r2.toInt = 92 := i_eq (a := r2.toInt) (b := 92) rfl rfl c59
              intro x65 ex65
              have f25 : x65.toInt = p1.toInt + 1 := i_add (a := p1.toInt) (b := 1) ex65 rfl rfl (by omega) (by omega)
              refine ok_X12_signAt (by omega) (by omega) (by omega) (rp_mono b0 (by omega) (by omega)) (fun r66 f26 f27 f28 => ?_)
              intro x73 ex73
              have f29 : x73.toInt = p1.toInt + 2 := i_add (a := p1.toInt) (b := 2) ex73 rfl rfl (by omega) (by omega)
              refine ⟨fun c85 => ?_, fun c85 => ?_⟩
              · have f30 : r66.toInt ≠ 120 := i_ne (a := r66.toInt) (b := 120) rfl rfl c85
                have j_129 : w_X12_member_129 p1 Q v_fault v_faultAt r66 x73 := by
                  unfold w_X12_member_129
                  intro x133 ex133
                  have f31 : x133.toInt = p1.toInt + 1 := i_add (a := p1.toInt) (b := 1) ex133 rfl rfl (by omega) (by omega)
                  refine ok_X12_fail (by omega) (by omega) (by omega) (fun r134_0 r134_1 f32 f33 f34 => ?_)
                  exact j_137 r134_0 r134_1 r66 x73 (by omega) (by omega) (by omega) (by omega) (by omega) (by omega)
                refine ⟨fun c112 => ?_, fun c112 => ?_⟩
                · have f35 : r66.toInt = (-1) := i_eq (a := r66.toInt) (b := (-1)) rfl rfl c112
                  exact j_129  
                · have f36 : r66.toInt ≠ (-1) := i_ne (a := r66.toInt) (b := (-1)) rfl rfl c112
                  refine ok_X12_isLetter  (fun r116 f37 f38 f39 f40 => ?_)
                  refine ⟨fun c119 => ?_, fun c119 => ?_⟩
                  · have f41 : r116.toInt ≠ 0 := i_ne (a := r116.toInt) (b := 0) rfl rfl c119
                    exact j_129  
                  · have f42 : r116.toInt = 0 := i_eq (a := r116.toInt) (b := 0) rfl rfl c119
                    refine ok_X12_isDigit  (fun r123 f43 f44 f45 f46 f47 => ?_)
                    refine ⟨fun c126 => ?_, fun c126 => ?_⟩
                    · have f48 : r123.toInt = 0 := i_eq (a := r123.toInt) (b := 0) rfl rfl c126
                      exact j_137 v_fault v_faultAt r66 x73 (by omega) (by omega) (by omega) (by omega) (by omega) (by omega)
                    · have f49 : r123.toInt ≠ 0 := i_ne (a := r123.toInt) (b := 0) rfl rfl c126
                      exact j_129  
              · have f50 : r66.toInt = 120 := i_eq (a := r66.toInt) (b := 120) rfl rfl c85
                intro x92 ex92
                have f51 : x92.toInt = p1.toInt + 2 := i_add (a := p1.toInt) (b := 2) ex92 rfl rfl (by omega) (by omega)
                refine ok_X12_hexes (by omega) (by omega) (by omega) (by omega) (by omega) (by omega) (rp_mono b0 (by omega) (by omega)) (fun r93 r93_0 r93_1 f52 f53 f54 f55 f56 => ?_)
                intro x103 ex103
                have f57 : x103.toInt = p1.toInt + 6 := i_add (a := p1.toInt) (b := 6) ex103 rfl rfl (by omega) (by omega)
                exact j_137 r93_0 r93_1 r93 x103 (by omega) (by omega) (by omega) (by omega) (by omega) (by omega)
          · have f58 : r2.toInt = 45 := i_eq (a := r2.toInt) (b := 45) rfl rfl c44
            exact j_47  
set_option maxHeartbeats 4000000 in
theorem ok_X12_escaped {v_taped : Int32} {v_newNodes : Int32} {v_newParts : Int32} {v_fault : Int32} {v_faultAt : Int32} {v_at : Int32} {v_newCaptures : Int32} {v_tape : Nat → Int32} {v_newSort : Nat → Int32} {v_newValue : Nat → Int32} {v_newLeast : Nat → Int32} {v_newMost : Nat → Int32} {v_newFirst : Nat → Int32} {v_newNext : Nat → Int32} {v_newMany : Nat → Int32} {v_newPart : Nat → Int32} {v_newBegin : Nat → Int32} {v_newEnd : Nat → Int32} {v_newNames : Nat → Int32} {Q : Int32 → Int32 → Int32 → Int32 → Int32 → Int32 → (Nat → Int32) → (Nat → Int32) → (Nat → Int32) → (Nat → Int32) → (Nat → Int32) → (Nat → Int32) → (Nat → Int32) → (Nat → Int32) → (Nat → Int32) → (Nat → Int32) → Prop} (a0 : 0 ≤ v_taped.toInt) (a1 : v_taped.toInt ≤ 200) (a2 : 0 ≤ v_fault.toInt) (a3 : 0 ≤ v_at.toInt) (a4 : v_at.toInt ≤ 900) (a5 : 0 ≤ v_newNodes.toInt) (a6 : v_newNodes.toInt ≤ 259) (a7 : 0 ≤ v_newParts.toInt) (a8 : v_newParts.toInt ≤ 416) (a9 : 0 ≤ v_newCaptures.toInt) (a10 : v_newCaptures.toInt ≤ 9) (b0 : rp (fun k v => 0 ≤ v ∧ v ≤ 126) v_tape 0 200) (hq : ∀ (r : Int32) (ov_newNodes : Int32) (ov_newParts : Int32) (ov_fault : Int32) (ov_faultAt : Int32) (ov_at : Int32) (ov_newSort : Nat → Int32) (ov_newValue : Nat → Int32) (ov_newLeast : Nat → Int32) (ov_newMost : Nat → Int32) (ov_newFirst : Nat → Int32) (ov_newNext : Nat → Int32) (ov_newMany : Nat → Int32) (ov_newPart : Nat → Int32) (ov_newBegin : Nat → Int32) (ov_newEnd : Nat → Int32), r.toInt = v_newNodes.toInt → ov_newNodes.toInt = v_newNodes.toInt + 1 → v_newParts.toInt ≤ ov_newParts.toInt → v_fault.toInt ≤ ov_fault.toInt → v_at.toInt ≤ ov_at.toInt → v_at.toInt + 2 ≤ ov_at.toInt → ov_at.toInt ≤ v_at.toInt + 6 → ov_newParts.toInt ≤ 420 → ((1 ≤ ov_fault.toInt) ∨ (ov_at.toInt ≤ v_taped.toInt)) → ov_newParts.toInt ≤ v_newParts.toInt + 4 → Q r ov_newNodes ov_newParts ov_fault ov_faultAt ov_at ov_newSort ov_newValue ov_newLeast ov_newMost ov_newFirst ov_newNext ov_newMany ov_newPart ov_newBegin ov_newEnd) : w_X12_escaped v_taped v_newNodes v_newParts v_fault v_faultAt v_at v_newCaptures v_tape v_newSort v_newValue v_newLeast v_newMost v_newFirst v_newNext v_newMany v_newPart v_newBegin v_newEnd v_newNames Q := by
  have q_t : (bz true).toInt = 1 := rfl
  have q_f : (bz false).toInt = 0 := rfl
  have q_0 : (0 : Int32).toInt = 0 := rfl
  have q_1 : (1 : Int32).toInt = 1 := rfl
  have q_2 : (2 : Int32).toInt = 2 := rfl
  have q_3 : (3 : Int32).toInt = 3 := rfl
  have q_4 : (4 : Int32).toInt = 4 := rfl
  have q_48 : (48 : Int32).toInt = 48 := rfl
  have q_49 : (49 : Int32).toInt = 49 := rfl
  have q_57 : (57 : Int32).toInt = 57 := rfl
  have q_65 : (65 : Int32).toInt = 65 := rfl
  have q_90 : (90 : Int32).toInt = 90 := rfl
  have q_95 : (95 : Int32).toInt = 95 := rfl
  have q_97 : (97 : Int32).toInt = 97 := rfl
  have q_122 : (122 : Int32).toInt = 122 := rfl
  unfold w_X12_escaped
  intro x6 ex6
  have f1 : x6.toInt = v_at.toInt + 1 := i_add (a := v_at.toInt) (b := 1) ex6 rfl rfl (by omega) (by omega)
  refine ok_X12_signAt (by omega) (by omega) (by omega) (rp_mono b0 (by omega) (by omega)) (fun r7 f2 f3 f4 => ?_)
  intro x21 ex21
  have f5 : x21.toInt = v_at.toInt + 1 := i_add (a := v_at.toInt) (b := 1) ex21 rfl rfl (by omega) (by omega)
  intro x29 ex29
  have f6 : x29.toInt = v_at.toInt + 2 := i_add (a := v_at.toInt) (b := 2) ex29 rfl rfl (by omega) (by omega)
  have j_45 : ((1 ≤ v_fault.toInt) ∨ (x29.toInt ≤ v_taped.toInt)) → x29.toInt ≤ 900 → x29.toInt ≤ v_taped.toInt → ((r7.toInt = 98) ∨ (r7.toInt = 66)) → w_X12_escaped_45 Q r7 v_newNodes v_newParts v_fault v_faultAt x29 v_newSort v_newValue v_newLeast v_newMost v_newFirst v_newNext v_newMany v_newPart v_newBegin v_newEnd := by
    intro f7 f8 f9 f10
    unfold w_X12_escaped_45
    have j_58 : ∀ (s0_58 : Int32), s0_58.toInt ≤ v_at.toInt + 3 → ((s0_58.toInt = 3) ∨ (s0_58.toInt = 2 ∧ r7.toInt = 98)) → w_X12_escaped_58 Q s0_58 3 v_newNodes v_newParts v_fault v_faultAt x29 v_newSort v_newValue v_newLeast v_newMost v_newFirst v_newNext v_newMany v_newPart v_newBegin v_newEnd := by
      intro s0_58 f11 f12
      unfold w_X12_escaped_58
      refine ok_X12_made (by omega) (by omega) (fun r58 r58_0 r58_1 r58_2 r58_3 r58_4 r58_5 r58_6 r58_7 r58_8 f13 f14 => ?_)
      exact hq r58 r58_0 v_newParts v_fault v_faultAt x29 r58_1 r58_2 r58_3 r58_4 r58_5 r58_6 r58_7 r58_8 v_newBegin v_newEnd (by omega) (by omega) (by omega) (by omega) (by omega) (by omega) (by omega) (by omega) (by omega) (by omega)
    refine ⟨fun c50 => ?_, fun c50 => ?_⟩
    · have f15 : r7.toInt ≠ 98 := i_ne (a := r7.toInt) (b := 98) rfl rfl c50
      exact j_58 3 (by omega) (by omega)
    · have f16 : r7.toInt = 98 := i_eq (a := r7.toInt) (b := 98) rfl rfl c50
      exact j_58 2 (by omega) (by omega)
  refine ⟨fun c36 => ?_, fun c36 => ?_⟩
  · have f17 : r7.toInt = 98 := i_eq (a := r7.toInt) (b := 98) rfl rfl c36
    exact j_45  (by omega) (by omega) (by omega) (by omega)
  · have f18 : r7.toInt ≠ 98 := i_ne (a := r7.toInt) (b := 98) rfl rfl c36
    refine ⟨fun c42 => ?_, fun c42 => ?_⟩
    · have f19 : r7.toInt ≠ 66 := i_ne (a := r7.toInt) (b := 66) rfl rfl c42
      have j_74 : ((1 ≤ v_fault.toInt) ∨ (x29.toInt ≤ v_taped.toInt)) → x29.toInt ≤ 900 → x29.toInt ≤ v_taped.toInt → ((r7.toInt = 100) ∨ (r7.toInt = 119)) → w_X12_escaped_74 Q r7 v_newParts v_newNodes v_newParts v_fault v_faultAt x29 v_newSort v_newValue v_newLeast v_newMost v_newFirst v_newNext v_newMany v_newPart v_newBegin v_newEnd := by
        intro f20 f21 f22 f23
        unfold w_X12_escaped_74
        refine ok_X12_addPart (by omega) (by omega) (fun r79_0 r79_1 r79_2 f24 => ?_)
        have j_112 : ∀ (v_newParts_112 : Int32) (v_newBegin_112 : Nat → Int32) (v_newEnd_112 : Nat → Int32), v_newParts.toInt ≤ v_newParts_112.toInt → v_newParts_112.toInt ≤ v_newParts.toInt + 4 → ((v_newParts_112.toInt = r79_0.toInt) ∨ (r7.toInt = 119 ∧ v_newParts_112.toInt = r79_0.toInt + 3)) → w_X12_escaped_112 Q v_newParts v_newNodes v_newParts_112 v_fault v_faultAt x29 v_newSort v_newValue v_newLeast v_newMost v_newFirst v_newNext v_newMany v_newPart v_newBegin_112 v_newEnd_112 := by
          intro v_newParts_112 v_newBegin_112 v_newEnd_112 f25 f26 f27
          unfold w_X12_escaped_112
          refine ok_X12_setNode (by omega) (by omega) (by omega) (by omega) (by omega) (by omega) (by omega) (by omega) (fun r115 r115_0 r115_1 r115_2 r115_3 r115_4 r115_5 r115_6 r115_7 r115_8 r115_9 r115_10 r115_11 f28 f29 f30 f31 f32 f33 f34 f35 => ?_)
          exact hq r115 r115_0 r115_1 v_fault v_faultAt x29 r115_2 r115_3 r115_4 r115_5 r115_6 r115_7 r115_8 r115_9 r115_10 r115_11 (by omega) (by omega) (by omega) (by omega) (by omega) (by omega) (by omega) (by omega) (by omega) (by omega)
        refine ⟨fun c85 => ?_, fun c85 => ?_⟩
        · have f36 : r7.toInt ≠ 119 := i_ne (a := r7.toInt) (b := 119) rfl rfl c85
          exact j_112 r79_0 r79_1 r79_2 (by omega) (by omega) (by omega)
        · have f37 : r7.toInt = 119 := i_eq (a := r7.toInt) (b := 119) rfl rfl c85
          refine ok_X12_addPart (by omega) (by omega) (fun r93_0 r93_1 r93_2 f38 => ?_)
          refine ok_X12_addPart (by omega) (by omega) (fun r101_0 r101_1 r101_2 f39 => ?_)
          refine ok_X12_addPart (by omega) (by omega) (fun r109_0 r109_1 r109_2 f40 => ?_)
          exact j_112 r109_0 r109_1 r109_2 (by omega) (by omega) (by omega)
      refine ⟨fun c65 => ?_, fun c65 => ?_⟩
      · have f41 : r7.toInt = 100 := i_eq (a := r7.toInt) (b := 100) rfl rfl c65
        exact j_74  (by omega) (by omega) (by omega) (by omega)
      · have f42 : r7.toInt ≠ 100 := i_ne (a := r7.toInt) (b := 100) rfl rfl c65
        refine ⟨fun c71 => ?_, fun c71 => ?_⟩
        · have f43 : r7.toInt ≠ 119 := i_ne (a := r7.toInt) (b := 119) rfl rfl c71
          refine ok_X12_in  (fun r124 f44 f45 f46 f47 f48 => ?_)
          refine ⟨fun c127 => ?_, fun c127 => ?_⟩
          · have f49 : r124.toInt = 0 := i_eq (a := r124.toInt) (b := 0) rfl rfl c127
            refine ⟨fun c160 => ?_, fun c160 => ?_⟩
            · have f50 : r7.toInt ≠ 64 := i_ne (a := r7.toInt) (b := 64) rfl rfl c160
              refine ⟨fun c237 => ?_, fun c237 => ?_⟩
              · have f51 : r7.toInt ≠ 120 := i_ne (a := r7.toInt) (b := 120) rfl rfl c237
                have j_293 : ∀ (v_fault_293 : Int32) (v_faultAt_293 : Int32), v_fault.toInt ≤ v_fault_293.toInt → ((1 ≤ v_fault_293.toInt) ∨ (x29.toInt ≤ v_taped.toInt)) → ((v_fault_293.toInt = v_fault.toInt ∧ v_faultAt_293.toInt = v_faultAt.toInt) ∨ (v_fault.toInt ≤ v_fault_293.toInt ∧ 1 ≤ v_fault_293.toInt)) → w_X12_escaped_293 Q r7 v_newNodes v_newParts v_fault_293 v_faultAt_293 x29 v_newSort v_newValue v_newLeast v_newMost v_newFirst v_newNext v_newMany v_newPart v_newBegin v_newEnd := by
                  intro v_fault_293 v_faultAt_293 f52 f53 f54
                  unfold w_X12_escaped_293
                  refine ok_X12_made (by omega) (by omega) (fun r296 r296_0 r296_1 r296_2 r296_3 r296_4 r296_5 r296_6 r296_7 r296_8 f55 f56 => ?_)
                  exact hq r296 r296_0 v_newParts v_fault_293 v_faultAt_293 x29 r296_1 r296_2 r296_3 r296_4 r296_5 r296_6 r296_7 r296_8 v_newBegin v_newEnd (by omega) (by omega) (by omega) (by omega) (by omega) (by omega) (by omega) (by omega) (by omega) (by omega)
                have j_287 : w_X12_escaped_287 Q r7 x21 v_newNodes v_newParts v_fault v_faultAt x29 v_newSort v_newValue v_newLeast v_newMost v_newFirst v_newNext v_newMany v_newPart v_newBegin v_newEnd := by
                  unfold w_X12_escaped_287
                  refine ok_X12_fail (by omega) (by omega) (by omega) (fun r290_0 r290_1 f57 f58 f59 => ?_)
                  exact j_293 r290_0 r290_1 (by omega) (by omega) (by omega)
                refine ⟨fun c270 => ?_, fun c270 => ?_⟩
                · have f60 : r7.toInt = (-1) := i_eq (a := r7.toInt) (b := (-1)) rfl rfl c270
                  exact j_287  
                · have f61 : r7.toInt ≠ (-1) := i_ne (a := r7.toInt) (b := (-1)) rfl rfl c270
                  refine ok_X12_isLetter  (fun r274 f62 f63 f64 f65 => ?_)
                  refine ⟨fun c277 => ?_, fun c277 => ?_⟩
                  · have f66 : r274.toInt ≠ 0 := i_ne (a := r274.toInt) (b := 0) rfl rfl c277
                    exact j_287  
                  · have f67 : r274.toInt = 0 := i_eq (a := r274.toInt) (b := 0) rfl rfl c277
                    refine ok_X12_isDigit  (fun r281 f68 f69 f70 f71 f72 => ?_)
                    refine ⟨fun c284 => ?_, fun c284 => ?_⟩
                    · have f73 : r281.toInt = 0 := i_eq (a := r281.toInt) (b := 0) rfl rfl c284
                      exact j_293 v_fault v_faultAt (by omega) (by omega) (by omega)
                    · have f74 : r281.toInt ≠ 0 := i_ne (a := r281.toInt) (b := 0) rfl rfl c284
                      exact j_287  
              · have f75 : r7.toInt = 120 := i_eq (a := r7.toInt) (b := 120) rfl rfl c237
                refine ok_X12_hexes (by omega) (by omega) (by omega) (by omega) (by omega) (by omega) (rp_mono b0 (by omega) (by omega)) (fun r245 r245_0 r245_1 f76 f77 f78 f79 f80 => ?_)
                intro x256 ex256
                have f81 : x256.toInt = x29.toInt + 4 := i_add (a := x29.toInt) (b := 4) ex256 rfl rfl (by omega) (by omega)
                refine ok_X12_made (by omega) (by omega) (fun r264 r264_0 r264_1 r264_2 r264_3 r264_4 r264_5 r264_6 r264_7 r264_8 f82 f83 => ?_)
                exact hq r264 r264_0 v_newParts r245_0 r245_1 x256 r264_1 r264_2 r264_3 r264_4 r264_5 r264_6 r264_7 r264_8 v_newBegin v_newEnd (by omega) (by omega) (by omega) (by omega) (by omega) (by omega) (by omega) (by omega) (by omega) (by omega)
            · have f84 : r7.toInt = 64 := i_eq (a := r7.toInt) (b := 64) rfl rfl c160
              refine ok_X12_signAt (by omega) (by omega) (by omega) (rp_mono b0 (by omega) (by omega)) (fun r168 f85 f86 f87 => ?_)
              refine ok_X12_in  (fun r179 f88 f89 f90 f91 f92 => ?_)
              have j_194 : ∀ (v_fault_194 : Int32) (v_faultAt_194 : Int32), v_fault.toInt ≤ v_fault_194.toInt → ((1 ≤ v_fault_194.toInt) ∨ (x29.toInt + 1 ≤ v_taped.toInt)) → ((v_fault_194.toInt = v_fault.toInt ∧ v_faultAt_194.toInt = v_faultAt.toInt) ∨ (r179.toInt = 0 ∧ v_fault.toInt ≤ v_fault_194.toInt ∧ 1 ≤ v_fault_194.toInt)) → w_X12_escaped_194 v_newCaptures v_newNames Q r168 v_newNodes v_newParts v_fault_194 v_faultAt_194 x29 v_newSort v_newValue v_newLeast v_newMost v_newFirst v_newNext v_newMany v_newPart v_newBegin v_newEnd := by
                intro v_fault_194 v_faultAt_194 f93 f94 f95
                unfold w_X12_escaped_194
                refine ok_X12_captureOf (by omega) (by omega) (fun r197 f96 f97 f98 f99 f100 f101 => ?_)
                have j_216 : ∀ (v_fault_216 : Int32) (v_faultAt_216 : Int32), v_fault.toInt ≤ v_fault_216.toInt → ((1 ≤ v_fault_216.toInt) ∨ (x29.toInt + 1 ≤ v_taped.toInt)) → ((v_fault_216.toInt = v_fault_194.toInt ∧ v_faultAt_216.toInt = v_faultAt_194.toInt) ∨ (r197.toInt = 0 ∧ v_fault_194.toInt ≤ v_fault_216.toInt ∧ 1 ≤ v_fault_216.toInt)) → w_X12_escaped_216 Q r197 v_newNodes v_newParts v_fault_216 v_faultAt_216 x29 v_newSort v_newValue v_newLeast v_newMost v_newFirst v_newNext v_newMany v_newPart v_newBegin v_newEnd := by
                  intro v_fault_216 v_faultAt_216 f102 f103 f104
                  unfold w_X12_escaped_216
                  intro x222 ex222
                  have f105 : x222.toInt = x29.toInt + 1 := i_add (a := x29.toInt) (b := 1) ex222 rfl rfl (by omega) (by omega)
                  refine ok_X12_made (by omega) (by omega) (fun r230 r230_0 r230_1 r230_2 r230_3 r230_4 r230_5 r230_6 r230_7 r230_8 f106 f107 => ?_)
                  exact hq r230 r230_0 v_newParts v_fault_216 v_faultAt_216 x222 r230_1 r230_2 r230_3 r230_4 r230_5 r230_6 r230_7 r230_8 v_newBegin v_newEnd (by omega) (by omega) (by omega) (by omega) (by omega) (by omega) (by omega) (by omega) (by omega) (by omega)
                refine ⟨fun c204 => ?_, fun c204 => ?_⟩
                · have f108 : r197.toInt ≠ 0 := i_ne (a := r197.toInt) (b := 0) rfl rfl c204
                  exact j_216 v_fault_194 v_faultAt_194 (by omega) (by omega) (by omega)
                · have f109 : r197.toInt = 0 := i_eq (a := r197.toInt) (b := 0) rfl rfl c204
                  refine ok_X12_fail (by omega) (by omega) (by omega) (fun r213_0 r213_1 f110 f111 f112 => ?_)
                  exact j_216 r213_0 r213_1 (by omega) (by omega) (by omega)
              refine ⟨fun c182 => ?_, fun c182 => ?_⟩
              · have f113 : r179.toInt ≠ 0 := i_ne (a := r179.toInt) (b := 0) rfl rfl c182
                exact j_194 v_fault v_faultAt (by omega) (by omega) (by omega)
              · have f114 : r179.toInt = 0 := i_eq (a := r179.toInt) (b := 0) rfl rfl c182
                refine ok_X12_fail (by omega) (by omega) (by omega) (fun r191_0 r191_1 f115 f116 f117 => ?_)
                exact j_194 r191_0 r191_1 (by omega) (by omega) (by omega)
          · have f118 : r124.toInt ≠ 0 := i_ne (a := r124.toInt) (b := 0) rfl rfl c127
            intro x133 ex133
            have f119 : x133.toInt = r7.toInt - 48 := i_sub (a := r7.toInt) (b := 48) ex133 rfl rfl (by omega) (by omega)
            have j_147 : ∀ (v_fault_147 : Int32) (v_faultAt_147 : Int32), v_fault.toInt ≤ v_fault_147.toInt → ((v_fault_147.toInt = v_fault.toInt ∧ v_faultAt_147.toInt = v_faultAt.toInt ∧ x133.toInt ≤ v_newCaptures.toInt) ∨ (v_newCaptures.toInt + 1 ≤ x133.toInt ∧ v_fault.toInt ≤ v_fault_147.toInt ∧ 1 ≤ v_fault_147.toInt)) → w_X12_escaped_147 Q r7 v_newNodes v_newParts v_fault_147 v_faultAt_147 x29 v_newSort v_newValue v_newLeast v_newMost v_newFirst v_newNext v_newMany v_newPart v_newBegin v_newEnd := by
              intro v_fault_147 v_faultAt_147 f120 f121
              unfold w_X12_escaped_147
              intro x152 ex152
              have f122 : x152.toInt = r7.toInt - 48 := i_sub (a := r7.toInt) (b := 48) ex152 rfl rfl (by omega) (by omega)
              refine ok_X12_made (by omega) (by omega) (fun r153 r153_0 r153_1 r153_2 r153_3 r153_4 r153_5 r153_6 r153_7 r153_8 f123 f124 => ?_)
              exact hq r153 r153_0 v_newParts v_fault_147 v_faultAt_147 x29 r153_1 r153_2 r153_3 r153_4 r153_5 r153_6 r153_7 r153_8 v_newBegin v_newEnd (by omega) (by omega) (by omega) (by omega) (by omega) (by omega) (by omega) (by omega) (by omega) (by omega)
            refine ⟨fun c138 => ?_, fun c138 => ?_⟩
            · have f125 : x133.toInt ≤ v_newCaptures.toInt := i_le (a := x133.toInt) (b := v_newCaptures.toInt) rfl rfl c138
              exact j_147 v_fault v_faultAt (by omega) (by omega)
            · have f126 : v_newCaptures.toInt < x133.toInt := i_nle (a := x133.toInt) (b := v_newCaptures.toInt) rfl rfl c138
              refine ok_X12_fail (by omega) (by omega) (by omega) (fun r144_0 r144_1 f127 f128 f129 => ?_)
              exact j_147 r144_0 r144_1 (by omega) (by omega)
        · have f130 : r7.toInt = 119 := i_eq (a := r7.toInt) (b := 119) rfl rfl c71
          exact j_74  (by omega) (by omega) (by omega) (by omega)
    · have f131 : r7.toInt = 66 := i_eq (a := r7.toInt) (b := 66) rfl rfl c42
      exact j_45  (by omega) (by omega) (by omega) (by omega)
set_option maxHeartbeats 4000000 in
theorem ok_X12_closeGroup {v_taped : Int32} {v_newNodes : Int32} {v_fault : Int32} {v_faultAt : Int32} {v_at : Int32} {v_items : Int32} {v_depth : Int32} {v_loopLeast : Int32} {v_loopMost : Int32} {v_tape : Nat → Int32} {v_newSort : Nat → Int32} {v_newValue : Nat → Int32} {v_newLeast : Nat → Int32} {v_newMost : Nat → Int32} {v_newFirst : Nat → Int32} {v_newNext : Nat → Int32} {v_newMany : Nat → Int32} {v_newPart : Nat → Int32} {v_groupSort : Nat → Int32} {v_groupValue : Nat → Int32} {v_rowFirst : Nat → Int32} {v_rowLast : Nat → Int32} {v_rowMany : Nat → Int32} {v_rowsFirst : Nat → Int32} {v_rowsLast : Nat → Int32} {v_rowsMany : Nat → Int32} {Q : Int32 → Int32 → Int32 → Int32 → Int32 → Int32 → Int32 → Int32 → (Nat → Int32) → (Nat → Int32) → (Nat → Int32) → (Nat → Int32) → (Nat → Int32) → (Nat → Int32) → (Nat → Int32) → (Nat → Int32) → (Nat → Int32) → (Nat → Int32) → (Nat → Int32) → (Nat → Int32) → (Nat → Int32) → (Nat → Int32) → Prop} (a0 : 0 ≤ v_taped.toInt) (a1 : v_taped.toInt ≤ 200) (a2 : v_at.toInt + 1 ≤ v_taped.toInt) (a3 : 0 ≤ v_fault.toInt) (a4 : 0 ≤ v_at.toInt) (a5 : v_at.toInt ≤ 900) (a6 : 0 ≤ v_depth.toInt) (a7 : v_depth.toInt ≤ 9) (a8 : 0 ≤ v_newNodes.toInt) (a9 : v_newNodes.toInt ≤ 250) (a10 : 0 ≤ v_items.toInt) (a11 : v_items.toInt ≤ 100) (b0 : rp (fun k v => 0 ≤ v ∧ v ≤ 126) v_tape 0 200) (b1 : qp2 (fun k m l => (m = 0) ∨ (0 ≤ l ∧ l ≤ 259)) v_rowMany v_rowFirst 0 12) (b2 : qp2 (fun k m l => (m = 0) ∨ (0 ≤ l ∧ l ≤ 259)) v_rowsMany v_rowsFirst 0 12) (b3 : qp2 (fun k m l => (m = 0) ∨ (0 ≤ l ∧ l ≤ 259)) v_rowMany v_rowLast 0 12) (b4 : qp2 (fun k m l => (m = 0) ∨ (0 ≤ l ∧ l ≤ 259)) v_rowsMany v_rowsLast 0 12) (b5 : rp (fun k v => -1 ≤ v ∧ v ≤ 259) v_rowFirst 0 12) (b6 : rp (fun k v => -1 ≤ v ∧ v ≤ 259) v_rowLast 0 12) (b7 : rp (fun k v => -1 ≤ v ∧ v ≤ 259) v_rowsFirst 0 12) (b8 : rp (fun k v => -1 ≤ v ∧ v ≤ 259) v_rowsLast 0 12) (hq : ∀ (ov_newNodes : Int32) (ov_fault : Int32) (ov_faultAt : Int32) (ov_at : Int32) (ov_items : Int32) (ov_depth : Int32) (ov_loopLeast : Int32) (ov_loopMost : Int32) (ov_newSort : Nat → Int32) (ov_newValue : Nat → Int32) (ov_newLeast : Nat → Int32) (ov_newMost : Nat → Int32) (ov_newFirst : Nat → Int32) (ov_newNext : Nat → Int32) (ov_newMany : Nat → Int32) (ov_newPart : Nat → Int32) (ov_rowFirst : Nat → Int32) (ov_rowLast : Nat → Int32) (ov_rowMany : Nat → Int32) (ov_rowsFirst : Nat → Int32) (ov_rowsLast : Nat → Int32) (ov_rowsMany : Nat → Int32), v_fault.toInt ≤ ov_fault.toInt → v_newNodes.toInt ≤ ov_newNodes.toInt → v_at.toInt ≤ ov_at.toInt → v_items.toInt ≤ ov_items.toInt → ov_depth.toInt ≤ v_depth.toInt → ov_newNodes.toInt ≤ 255 → ov_at.toInt ≤ 210 → ov_items.toInt ≤ 101 → 0 ≤ ov_depth.toInt → ov_depth.toInt ≤ 8 → ((1 ≤ ov_fault.toInt) ∨ (ov_at.toInt ≤ v_taped.toInt)) → ((v_at.toInt + 1 ≤ ov_at.toInt) ∨ (1 ≤ ov_fault.toInt)) → ov_at.toInt ≤ v_at.toInt + 11 → 2 * ov_depth.toInt + ov_newNodes.toInt + v_at.toInt ≤ ov_at.toInt + 2 * v_depth.toInt + v_newNodes.toInt → ov_newNodes.toInt ≤ v_newNodes.toInt + 4 → ov_items.toInt ≤ v_items.toInt + 1 → ((1 ≤ ov_fault.toInt) ∨ (ov_items.toInt ≤ 100)) → qp2 (fun k m l => (m = 0) ∨ (0 ≤ l ∧ l ≤ 259)) ov_rowMany ov_rowFirst 0 12 → qp2 (fun k m l => (m = 0) ∨ (0 ≤ l ∧ l ≤ 259)) ov_rowsMany ov_rowsFirst 0 12 → qp2 (fun k m l => (m = 0) ∨ (0 ≤ l ∧ l ≤ 259)) ov_rowMany ov_rowLast 0 12 → qp2 (fun k m l => (m = 0) ∨ (0 ≤ l ∧ l ≤ 259)) ov_rowsMany ov_rowsLast 0 12 → rp (fun k v => -1 ≤ v ∧ v ≤ 259) ov_rowFirst 0 12 → rp (fun k v => -1 ≤ v ∧ v ≤ 259) ov_rowLast 0 12 → rp (fun k v => -1 ≤ v ∧ v ≤ 259) ov_rowsFirst 0 12 → rp (fun k v => -1 ≤ v ∧ v ≤ 259) ov_rowsLast 0 12 → qp2 (fun k m l => (m = 0) ∨ (0 ≤ l ∧ l ≤ 259)) v_rowsMany ov_rowsFirst 0 12 → qp2 (fun k m l => (m = 0) ∨ (0 ≤ l ∧ l ≤ 259)) v_rowsMany ov_rowsLast 0 12 → Q ov_newNodes ov_fault ov_faultAt ov_at ov_items ov_depth ov_loopLeast ov_loopMost ov_newSort ov_newValue ov_newLeast ov_newMost ov_newFirst ov_newNext ov_newMany ov_newPart ov_rowFirst ov_rowLast ov_rowMany ov_rowsFirst ov_rowsLast ov_rowsMany) : w_X12_closeGroup v_taped v_newNodes v_fault v_faultAt v_at v_items v_depth v_loopLeast v_loopMost v_tape v_newSort v_newValue v_newLeast v_newMost v_newFirst v_newNext v_newMany v_newPart v_groupSort v_groupValue v_rowFirst v_rowLast v_rowMany v_rowsFirst v_rowsLast v_rowsMany Q := by
  have q_t : (bz true).toInt = 1 := rfl
  have q_f : (bz false).toInt = 0 := rfl
  have q_1 : (1 : Int32).toInt = 1 := rfl
  unfold w_X12_closeGroup
  refine ⟨fun c4 => ?_, fun c4 => ?_⟩
  · have f1 : v_depth.toInt ≠ 0 := i_ne (a := v_depth.toInt) (b := 0) rfl rfl c4
    refine ok_X12_closeChoice (by omega) (by omega) (by omega) (by omega) (qp2_mono b1 (by omega) (by omega)) (qp2_mono b2 (by omega) (by omega)) (qp2_mono b3 (by omega) (by omega)) (qp2_mono b4 (by omega) (by omega)) (rp_mono b5 (by omega) (by omega)) (rp_mono b6 (by omega) (by omega)) (rp_mono b7 (by omega) (by omega)) (rp_mono b8 (by omega) (by omega)) (fun r18 r18_0 r18_1 r18_2 r18_3 r18_4 r18_5 r18_6 r18_7 r18_8 r18_9 r18_10 r18_11 r18_12 r18_13 r18_14 f2 f3 f4 h5 h6 h7 h8 h9 h10 h11 h12 h13 h14 h15 h16 => ?_)
    refine ⟨i_in (by omega) (by omega), ?_⟩
    intro x30 ex30
    have j_56 : ∀ (s0_56 : Int32) (v_newNodes_56 : Int32) (v_newSort_56 : Nat → Int32) (v_newValue_56 : Nat → Int32) (v_newLeast_56 : Nat → Int32) (v_newMost_56 : Nat → Int32) (v_newFirst_56 : Nat → Int32) (v_newNext_56 : Nat → Int32) (v_newMany_56 : Nat → Int32) (v_newPart_56 : Nat → Int32), v_newNodes.toInt ≤ v_newNodes_56.toInt → v_newNodes_56.toInt ≤ v_newNodes.toInt + 4 → ((s0_56.toInt = r18_0.toInt ∧ v_newNodes_56.toInt = r18_0.toInt + 1) ∨ (s0_56.toInt = r18.toInt ∧ v_newNodes_56.toInt = r18_0.toInt)) → w_X12_closeGroup_56 v_taped v_tape Q s0_56 v_newNodes_56 v_fault v_faultAt v_at v_items v_depth v_loopLeast v_loopMost v_newSort_56 v_newValue_56 v_newLeast_56 v_newMost_56 v_newFirst_56 v_newNext_56 v_newMany_56 v_newPart_56 r18_9 r18_10 r18_11 r18_12 r18_13 r18_14 := by
      intro s0_56 v_newNodes_56 v_newSort_56 v_newValue_56 v_newLeast_56 v_newMost_56 v_newFirst_56 v_newNext_56 v_newMany_56 v_newPart_56 f17 f18 f19
      unfold w_X12_closeGroup_56
      intro x63 ex63
      have f20 : x63.toInt = v_depth.toInt - 1 := i_sub (a := v_depth.toInt) (b := 1) ex63 rfl rfl (by omega) (by omega)
      intro x73 ex73
      have f21 : x73.toInt = v_at.toInt + 1 := i_add (a := v_at.toInt) (b := 1) ex73 rfl rfl (by omega) (by omega)
      refine ok_X12_looped (by omega) (by omega) (by omega) (by omega) (by omega) (by omega) (by omega) (by omega) (by omega) (by omega) (by omega) (by omega) (by omega) (rp_mono b0 (by omega) (by omega)) (fun r80 r80_0 r80_1 r80_2 r80_3 r80_4 r80_5 r80_6 r80_7 r80_8 r80_9 r80_10 r80_11 r80_12 r80_13 r80_14 f22 f23 f24 f25 f26 f27 f28 f29 f30 f31 f32 f33 f34 f35 f36 => ?_)
      refine ok_X12_addNode (by omega) (by omega) (by omega) (by omega) (qp2_mono h13 (by omega) (by omega)) (qp2_mono h14 (by omega) (by omega)) (rp_mono h11 (by omega) (by omega)) (rp_mono h12 (by omega) (by omega)) (fun r83_0 r83_1 r83_2 r83_3 h37 h38 h39 h40 h41 h42 => ?_)
      exact hq r80_0 r80_1 r80_2 r80_3 r80_4 x63 r80_5 r80_6 r80_7 r80_8 r80_9 r80_10 r80_11 r83_0 r80_13 r80_14 r83_1 r83_2 r83_3 r18_12 r18_13 r18_14 (by omega) (by omega) (by omega) (by omega) (by omega) (by omega) (by omega) (by omega) (by omega) (by omega) (by omega) (by omega) (by omega) (by omega) (by omega) (by omega) (by omega) (qp2_mono h41 (by omega) (by omega)) (qp2_mono h9 (by omega) (by omega)) (qp2_mono h42 (by omega) (by omega)) (qp2_mono h10 (by omega) (by omega)) (rp_mono h38 (by omega) (by omega)) (rp_mono h40 (by omega) (by omega)) (rp_mono h6 (by omega) (by omega)) (rp_mono h8 (by omega) (by omega)) (qp2_mono h5 (by omega) (by omega)) (qp2_mono h7 (by omega) (by omega))
    refine ⟨fun c34 => ?_, fun c34 => ?_⟩
    · have f43 : x30.toInt ≠ 5 := i_ne (a := x30.toInt) (b := 5) rfl rfl c34
      refine ⟨i_in (by omega) (by omega), ?_⟩
      intro x51 ex51
      refine ok_X12_holding (by omega) (by omega) (fun r53 r53_0 r53_1 r53_2 r53_3 r53_4 r53_5 r53_6 r53_7 r53_8 f44 f45 => ?_)
      exact j_56 r53 r53_0 r53_1 r53_2 r53_3 r53_4 r53_5 r53_6 r53_7 r53_8 (by omega) (by omega) (by omega)
    · have f46 : x30.toInt = 5 := i_eq (a := x30.toInt) (b := 5) rfl rfl c34
      exact j_56 r18 r18_0 r18_1 r18_2 r18_3 r18_4 r18_5 r18_6 r18_7 r18_8 (by omega) (by omega) (by omega)
  · have f47 : v_depth.toInt = 0 := i_eq (a := v_depth.toInt) (b := 0) rfl rfl c4
    refine ok_X12_fail (by omega) (by omega) (by omega) (fun r13_0 r13_1 f48 f49 f50 => ?_)
    exact hq v_newNodes r13_0 r13_1 v_at v_items v_depth v_loopLeast v_loopMost v_newSort v_newValue v_newLeast v_newMost v_newFirst v_newNext v_newMany v_newPart v_rowFirst v_rowLast v_rowMany v_rowsFirst v_rowsLast v_rowsMany (by omega) (by omega) (by omega) (by omega) (by omega) (by omega) (by omega) (by omega) (by omega) (by omega) (by omega) (by omega) (by omega) (by omega) (by omega) (by omega) (by omega) (qp2_mono b1 (by omega) (by omega)) (qp2_mono b2 (by omega) (by omega)) (qp2_mono b3 (by omega) (by omega)) (qp2_mono b4 (by omega) (by omega)) (rp_mono b5 (by omega) (by omega)) (rp_mono b6 (by omega) (by omega)) (rp_mono b7 (by omega) (by omega)) (rp_mono b8 (by omega) (by omega)) (qp2_mono b2 (by omega) (by omega)) (qp2_mono b4 (by omega) (by omega))
set_option maxHeartbeats 4000000 in
theorem ok_X12_put {p1 : Int32} {v_printedMany : Int32} {v_printed : Nat → Int32} {Q : Int32 → (Nat → Int32) → Prop} (a0 : 0 ≤ v_printedMany.toInt) (a1 : v_printedMany.toInt ≤ 3999) (hq : ∀ (ov_printedMany : Int32) (ov_printed : Nat → Int32), ov_printedMany.toInt = v_printedMany.toInt + 1 → Q ov_printedMany ov_printed) : w_X12_put p1 v_printedMany v_printed Q := by
  have q_t : (bz true).toInt = 1 := rfl
  have q_f : (bz false).toInt = 0 := rfl
  unfold w_X12_put
  refine ⟨i_in (by omega) (by omega), ?_⟩
  intro g9 eg9
  intro x16 ex16
  have f1 : x16.toInt = v_printedMany.toInt + 1 := i_add (a := v_printedMany.toInt) (b := 1) ex16 rfl rfl (by omega) (by omega)
  exact hq x16 g9 (by omega)
set_option maxHeartbeats 4000000 in
theorem ok_X12_putHex {p1 : Int32} {v_printedMany : Int32} {v_printed : Nat → Int32} {Q : Int32 → (Nat → Int32) → Prop} (a0 : 0 ≤ v_printedMany.toInt) (a1 : v_printedMany.toInt ≤ 3994) (hq : ∀ (ov_printedMany : Int32) (ov_printed : Nat → Int32), 4 * v_printedMany.toInt + 8 ≤ 4 * ov_printedMany.toInt → 4 * v_printedMany.toInt + 6 ≤ 4 * ov_printedMany.toInt → 4 * v_printedMany.toInt + 5 ≤ 4 * ov_printedMany.toInt → 4 * v_printedMany.toInt + 4 ≤ 4 * ov_printedMany.toInt → 4 * v_printedMany.toInt ≤ 4 * ov_printedMany.toInt + 27 → 4 * v_printedMany.toInt ≤ 4 * ov_printedMany.toInt + 28 → 4 * v_printedMany.toInt ≤ 4 * ov_printedMany.toInt + 29 → 4 * v_printedMany.toInt ≤ 4 * ov_printedMany.toInt + 66 → 4 * v_printedMany.toInt ≤ 4 * ov_printedMany.toInt + 67 → 4 * v_printedMany.toInt ≤ 4 * ov_printedMany.toInt + 68 → 0 ≤ ov_printedMany.toInt + 1 → 0 ≤ ov_printedMany.toInt → 1 ≤ ov_printedMany.toInt → 2 ≤ ov_printedMany.toInt → v_printedMany.toInt + 2 ≤ ov_printedMany.toInt → 4 * ov_printedMany.toInt ≤ 4 * v_printedMany.toInt + 24 → 4 * v_printedMany.toInt + 21 ≤ 4 * ov_printedMany.toInt → Q ov_printedMany ov_printed) : w_X12_putHex p1 v_printedMany v_printed Q := by
  have q_t : (bz true).toInt = 1 := rfl
  have q_f : (bz false).toInt = 0 := rfl
  have q_12 : (12 : Int32).toInt = 12 := rfl
  have q_92 : (92 : Int32).toInt = 92 := rfl
  have q_120 : (120 : Int32).toInt = 120 := rfl
  unfold w_X12_putHex
  refine ok_X12_put (by omega) (by omega) (fun r3_0 r3_1 f1 => ?_)
  refine ok_X12_put (by omega) (by omega) (fun r9_0 r9_1 f2 => ?_)
  have j_15 : ∀ n_15 : Nat, ∀ (l2_15 : Int32) (v_printedMany_15 : Int32) (v_printed_15 : Nat → Int32), r9_0.toInt ≤ v_printedMany_15.toInt → l2_15.toInt + 4 * v_printedMany_15.toInt = 4 * v_printedMany.toInt + 20 → 0 ≤ l2_15.toInt + 4 → (l2_15.toInt + 2147483649).toNat < n_15 → w_X12_putHex_15 p1 Q n_15 l2_15 v_printedMany_15 v_printed_15 := by
    intro n_15
    induction n_15 with
    | zero =>
      intro l2_15 v_printedMany_15 v_printed_15 f3 f4 f5 hm_15
      exfalso; omega
    | succ n_15 ih_15 =>
      intro l2_15 v_printedMany_15 v_printed_15 f3 f4 f5 hm_15
      unfold w_X12_putHex_15
      unfold w_X12_putHex_15B
      refine ⟨fun c16 => ?_, fun c16 => ?_⟩
      · have f6 : l2_15.toInt < 0 := i_lt (a := l2_15.toInt) (b := 0) rfl rfl c16
        exact hq v_printedMany_15 v_printed_15 (by omega) (by omega) (by omega) (by omega) (by omega) (by omega) (by omega) (by omega) (by omega) (by omega) (by omega) (by omega) (by omega) (by omega) (by omega) (by omega) (by omega)
      · have f7 : 0 ≤ l2_15.toInt := i_nlt (a := l2_15.toInt) (b := 0) rfl rfl c16
        intro x21 ex21
        intro x24 ex24
        have f8 : (0 ≤ x24.toInt ∧ x24.toInt ≤ 15) := i_andr ex24 (by decide)
        have j_44 : ∀ (s0_44 : Int32), ((10 ≤ x24.toInt ∧ s0_44.toInt = x24.toInt + 87) ∨ (x24.toInt ≤ 9 ∧ s0_44.toInt = x24.toInt + 48)) → w_X12_putHex_44 Q (w_X12_putHex_15 p1 Q n_15) s0_44 l2_15 v_printedMany_15 v_printed_15 := by
          intro s0_44 f9
          unfold w_X12_putHex_44
          refine ok_X12_put (by omega) (by omega) (fun r44_0 r44_1 f10 => ?_)
          intro x47 ex47
          have f11 : x47.toInt = l2_15.toInt + (-4) := i_add (a := l2_15.toInt) (b := (-4)) ex47 rfl rfl (by omega) (by omega)
          exact ih_15 x47 r44_0 r44_1 (by omega) (by omega) (by omega) (by have h8_0 := i_rng l2_15; have h8_1 := i_rng x47; omega)
        refine ⟨fun c30 => ?_, fun c30 => ?_⟩
        · have f12 : 10 ≤ x24.toInt := i_le (a := 10) (b := x24.toInt) rfl rfl c30
          intro x43 ex43
          have f13 : x43.toInt = 87 + x24.toInt := i_add (a := 87) (b := x24.toInt) ex43 rfl rfl (by omega) (by omega)
          exact j_44 x43 (by omega)
        · have f14 : x24.toInt < 10 := i_nle (a := 10) (b := x24.toInt) rfl rfl c30
          intro x36 ex36
          have f15 : x36.toInt = 48 + x24.toInt := i_add (a := 48) (b := x24.toInt) ex36 rfl rfl (by omega) (by omega)
          exact j_44 x36 (by omega)
  exact ⟨(2147483661 : Int).toNat + 1, j_15   ((2147483661 : Int).toNat + 1) 12 r9_0 r9_1 (by omega) (by omega) (by omega) (by omega)⟩
