set_option maxHeartbeats 4000000 in
theorem ok_X12_looped {p1 : Int32} {v_taped : Int32} {v_newNodes : Int32} {v_fault : Int32} {v_faultAt : Int32} {v_at : Int32} {v_items : Int32} {v_loopLeast : Int32} {v_loopMost : Int32} {v_tape : Nat → Int32} {v_newSort : Nat → Int32} {v_newValue : Nat → Int32} {v_newLeast : Nat → Int32} {v_newMost : Nat → Int32} {v_newFirst : Nat → Int32} {v_newNext : Nat → Int32} {v_newMany : Nat → Int32} {v_newPart : Nat → Int32} {v_newBegin : Nat → Int32} {v_newEnd : Nat → Int32} {v_rowFirst : Nat → Int32} {v_rowLast : Nat → Int32} {v_rowMany : Nat → Int32} {v_rowsFirst : Nat → Int32} {v_rowsLast : Nat → Int32} {v_rowsMany : Nat → Int32} {v_groupSort : Nat → Int32} {v_groupValue : Nat → Int32} {v_newParts : Int32} {v_newCaptures : Int32} {v_depth : Int32} {gi9 : Int} {ga9 : Int} {gw9 : Int} {Q : Int32 → Int32 → Int32 → Int32 → Int32 → Int32 → Int32 → Int32 → (Nat → Int32) → (Nat → Int32) → (Nat → Int32) → (Nat → Int32) → (Nat → Int32) → (Nat → Int32) → (Nat → Int32) → (Nat → Int32) → Prop} (a0 : 0 ≤ v_taped.toInt) (a1 : v_taped.toInt ≤ 200) (a2 : ((1 ≤ v_fault.toInt) ∨ (v_at.toInt ≤ v_taped.toInt))) (a3 : 0 ≤ v_fault.toInt) (a4 : 0 ≤ v_at.toInt) (a5 : v_at.toInt ≤ 1000) (a6 : 0 ≤ v_newNodes.toInt) (a7 : v_newNodes.toInt ≤ 259) (a8 : 0 ≤ v_items.toInt) (a9 : v_items.toInt ≤ 102) (a10 : ((1 ≤ v_fault.toInt) ∨ (v_items.toInt ≤ 100))) (a11 : 0 ≤ p1.toInt) (a12 : p1.toInt ≤ 259) (b0 : rp (fun k v => 32 ≤ v ∧ v ≤ 126) v_tape 0 v_taped.toInt) (u0 : zRP v_fault.toInt v_newSort v_newValue v_newLeast v_newMost v_newFirst v_newNext v_newMany v_newPart v_newBegin v_newEnd v_rowFirst v_rowLast v_rowMany v_rowsFirst v_rowsLast v_rowsMany v_groupSort v_groupValue v_depth.toInt p1.toInt v_newNodes.toInt v_newParts.toInt v_newCaptures.toInt gi9 ga9 gw9) (u1 : gi9 + 1 ≤ v_items.toInt) (u2 : ga9 ≤ v_at.toInt) (u3 : gw9 ≤ 16 * v_at.toInt) (hq : ∀ (r : Int32) (ov_newNodes : Int32) (ov_fault : Int32) (ov_faultAt : Int32) (ov_at : Int32) (ov_items : Int32) (ov_loopLeast : Int32) (ov_loopMost : Int32) (ov_newSort : Nat → Int32) (ov_newValue : Nat → Int32) (ov_newLeast : Nat → Int32) (ov_newMost : Nat → Int32) (ov_newFirst : Nat → Int32) (ov_newNext : Nat → Int32) (ov_newMany : Nat → Int32) (ov_newPart : Nat → Int32), v_newNodes.toInt ≤ ov_newNodes.toInt → v_fault.toInt ≤ ov_fault.toInt → v_at.toInt ≤ ov_at.toInt → ov_at.toInt ≤ v_at.toInt + 8 → v_items.toInt ≤ ov_items.toInt → 0 ≤ r.toInt → r.toInt ≤ 259 → ov_newNodes.toInt ≤ 260 → ov_at.toInt ≤ 1000 → ov_items.toInt ≤ 102 → ((1 ≤ ov_fault.toInt) ∨ (ov_at.toInt ≤ v_taped.toInt)) → ov_newNodes.toInt ≤ v_newNodes.toInt + 1 → ov_newNodes.toInt + v_at.toInt ≤ ov_at.toInt + v_newNodes.toInt → ov_items.toInt ≤ v_items.toInt + 1 → ((1 ≤ ov_fault.toInt) ∨ (ov_items.toInt ≤ 100)) → (zRP ov_fault.toInt ov_newSort ov_newValue ov_newLeast ov_newMost ov_newFirst ov_newNext ov_newMany ov_newPart v_newBegin v_newEnd v_rowFirst v_rowLast v_rowMany v_rowsFirst v_rowsLast v_rowsMany v_groupSort v_groupValue v_depth.toInt r.toInt ov_newNodes.toInt v_newParts.toInt v_newCaptures.toInt ov_items.toInt ov_at.toInt (16 * ov_at.toInt)) → Q r ov_newNodes ov_fault ov_faultAt ov_at ov_items ov_loopLeast ov_loopMost ov_newSort ov_newValue ov_newLeast ov_newMost ov_newFirst ov_newNext ov_newMany ov_newPart) : w_X12_looped p1 v_taped v_newNodes v_fault v_faultAt v_at v_items v_loopLeast v_loopMost v_tape v_newSort v_newValue v_newLeast v_newMost v_newFirst v_newNext v_newMany v_newPart Q := by
  have q_t : (bz true).toInt = 1 := rfl
  have q_f : (bz false).toInt = 0 := rfl
  have q_m1 : ((-1) : Int32).toInt = (-1) := rfl
  have q_0 : (0 : Int32).toInt = 0 := rfl
  have q_1 : (1 : Int32).toInt = 1 := rfl
  have q_2 : (2 : Int32).toInt = 2 := rfl
  have q_7 : (7 : Int32).toInt = 7 := rfl
  unfold w_X12_looped
  refine ok_X12_signAt (by omega) (by omega) (by omega) (rp_mono b0 (by omega) (by omega)) (fun r5 f1 f2 f3 f4 f5 f6 => ?_)
  have j_40 : ((1 ≤ v_fault.toInt) ∨ (v_fault.toInt ≤ 0)) → w_X12_looped_40 p1 Q v_newNodes v_fault v_faultAt v_at v_items v_loopLeast v_loopMost v_newSort v_newValue v_newLeast v_newMost v_newFirst v_newNext v_newMany v_newPart := by
    intro f7
    unfold w_X12_looped_40
    exact hq p1 v_newNodes v_fault v_faultAt v_at v_items v_loopLeast v_loopMost v_newSort v_newValue v_newLeast v_newMost v_newFirst v_newNext v_newMany v_newPart (by omega) (by omega) (by omega) (by omega) (by omega) (by omega) (by omega) (by omega) (by omega) (by omega) (by omega) (by omega) (by omega) (by omega) (by omega) (by exact zRP_mono u0 (by omega) (by omega) (by omega) (by omega))
  refine ⟨fun c13 => ?_, fun c13 => ?_⟩
  · have f8 : 0 < v_fault.toInt := i_lt (a := 0) (b := v_fault.toInt) rfl rfl c13
    exact j_40  (by omega)
  · have f9 : v_fault.toInt ≤ 0 := i_nlt (a := 0) (b := v_fault.toInt) rfl rfl c13
    have j_42 : ((1 ≤ v_fault.toInt) ∨ (v_at.toInt + 1 ≤ v_taped.toInt)) → w_X12_looped_42 p1 v_taped v_tape Q r5 v_newNodes v_fault v_faultAt v_at v_items v_loopLeast v_loopMost v_newSort v_newValue v_newLeast v_newMost v_newFirst v_newNext v_newMany v_newPart := by
      intro f10
      unfold w_X12_looped_42
      refine ok_X12_countItem (by omega) (by omega) (by omega) (fun r47_0 r47_1 r47_2 f11 f12 f13 f14 => ?_)
      have j_62 : ∀ (s0_62 : Int32), s0_62.toInt ≤ v_at.toInt + 1 → 0 ≤ s0_62.toInt → ((s0_62.toInt = 0) ∨ (s0_62.toInt = 1 ∧ r5.toInt = 43)) → w_X12_looped_62 p1 v_taped v_tape Q s0_62 r5 v_newNodes r47_0 r47_1 v_at r47_2 v_loopLeast v_loopMost v_newSort v_newValue v_newLeast v_newMost v_newFirst v_newNext v_newMany v_newPart := by
        intro s0_62 f15 f16 f17
        unfold w_X12_looped_62
        have j_77 : ∀ (s0_77 : Int32), s0_77.toInt ≤ v_at.toInt + 1 → ((s0_77.toInt + 1 = 0) ∨ (s0_77.toInt = 1 ∧ r5.toInt = 63)) → w_X12_looped_77 p1 v_taped v_tape Q s0_77 r5 v_newNodes r47_0 r47_1 v_at r47_2 s0_62 v_loopMost v_newSort v_newValue v_newLeast v_newMost v_newFirst v_newNext v_newMany v_newPart := by
          intro s0_77 f18 f19
          unfold w_X12_looped_77
          have j_165 : ∀ (v_fault_165 : Int32) (v_faultAt_165 : Int32) (v_at_165 : Int32) (v_loopLeast_165 : Int32) (v_loopMost_165 : Int32), v_fault.toInt ≤ v_fault_165.toInt → v_at.toInt ≤ v_at_165.toInt → v_at_165.toInt ≤ v_at.toInt + 6 → ((1 ≤ v_fault_165.toInt) ∨ (v_at_165.toInt ≤ v_taped.toInt)) → ((1 ≤ v_fault_165.toInt) ∨ (r47_2.toInt ≤ 100)) → ((1 ≤ v_fault_165.toInt) ∨ (0 ≤ v_loopLeast_165.toInt ∧ v_loopLeast_165.toInt ≤ 20)) → ((1 ≤ v_fault_165.toInt) ∨ (0 ≤ v_loopMost_165.toInt + 1 ∧ v_loopMost_165.toInt ≤ 20)) → ((1 ≤ v_fault_165.toInt) ∨ (v_loopMost_165.toInt + 1 = 0) ∨ (v_loopLeast_165.toInt ≤ v_loopMost_165.toInt)) → ((1 ≤ v_fault_165.toInt) ∨ (v_at_165.toInt + 1 ≤ v_taped.toInt)) → 0 ≤ v_loopMost_165.toInt + 1 → v_at_165.toInt ≤ 200 → v_loopMost_165.toInt ≤ 99 → w_X12_looped_165 p1 v_taped v_tape Q v_newNodes v_fault_165 v_faultAt_165 v_at_165 r47_2 v_loopLeast_165 v_loopMost_165 v_newSort v_newValue v_newLeast v_newMost v_newFirst v_newNext v_newMany v_newPart := by
            intro v_fault_165 v_faultAt_165 v_at_165 v_loopLeast_165 v_loopMost_165 f20 f21 f22 f23 f24 f25 f26 f27 f28 f29 f30 f31
            unfold w_X12_looped_165
            intro x171 ex171
            have f32 : x171.toInt = v_at_165.toInt + 1 := i_add (a := v_at_165.toInt) (b := 1) ex171 rfl rfl (by omega) (by omega)
            refine ok_X12_signAt (by omega) (by omega) (by omega) (rp_mono b0 (by omega) (by omega)) (fun r180 f33 f34 f35 f36 f37 f38 => ?_)
            have j_210 : ∀ (s0_210 : Int32), s0_210.toInt ≤ v_at.toInt + 2 → 0 ≤ s0_210.toInt → ((s0_210.toInt ≤ 0) ∨ (x171.toInt + 1 ≤ v_taped.toInt)) → ((s0_210.toInt = 0) ∨ (s0_210.toInt = 2) ∨ (s0_210.toInt = 1 ∧ r180.toInt = 63)) → w_X12_looped_210 p1 Q s0_210 v_newNodes v_fault_165 v_faultAt_165 x171 r47_2 v_loopLeast_165 v_loopMost_165 v_newSort v_newValue v_newLeast v_newMost v_newFirst v_newNext v_newMany v_newPart := by
              intro s0_210 f39 f40 f41 f42
              unfold w_X12_looped_210
              have j_225 : ∀ (s0_225 : Int32), s0_225.toInt ≤ v_at.toInt + 1 → 0 ≤ s0_225.toInt → ((s0_225.toInt ≤ 0) ∨ (x171.toInt + 1 ≤ v_taped.toInt)) → ((s0_225.toInt = 0 ∧ s0_210.toInt ≤ 0) ∨ (s0_225.toInt = 1 ∧ 1 ≤ s0_210.toInt)) → w_X12_looped_225 p1 Q s0_225 x171 s0_210 v_newNodes v_fault_165 v_faultAt_165 x171 r47_2 v_loopLeast_165 v_loopMost_165 v_newSort v_newValue v_newLeast v_newMost v_newFirst v_newNext v_newMany v_newPart := by
                intro s0_225 f43 f44 f45 f46
                unfold w_X12_looped_225
                intro x225 ex225
                have f47 : x225.toInt = x171.toInt + s0_225.toInt := i_add (a := x171.toInt) (b := s0_225.toInt) ex225 rfl rfl (by omega) (by omega)
                refine ok_X12_holding (by omega) (by omega) (fun r234 r234_0 r234_1 r234_2 r234_3 r234_4 r234_5 r234_6 r234_7 r234_8 f48 f49 u234_0 => ?_)
                refine ⟨i_in (by omega) (by omega), ?_⟩
                intro g249 eg249
                refine ⟨i_in (by omega) (by omega), ?_⟩
                intro g260 eg260
                exact hq r234 r234_0 v_fault_165 v_faultAt_165 x225 r47_2 v_loopLeast_165 v_loopMost_165 r234_1 r234_2 g249 g260 r234_5 r234_6 r234_7 r234_8 (by omega) (by omega) (by omega) (by omega) (by omega) (by omega) (by omega) (by omega) (by omega) (by omega) (by omega) (by omega) (by omega) (by omega) (by omega) (by exact zRP_loop u0 (by assumption) (by assumption) (by assumption) (by omega) (by omega) (by omega) (by omega) (by omega) (by omega) (by omega) (by omega))
              refine ⟨fun c217 => ?_, fun c217 => ?_⟩
              · have f50 : s0_210.toInt ≤ 0 := i_le (a := s0_210.toInt) (b := 0) rfl rfl c217
                exact j_225 0 (by omega) (by omega) (by omega) (by omega)
              · have f51 : 0 < s0_210.toInt := i_nle (a := s0_210.toInt) (b := 0) rfl rfl c217
                exact j_225 1 (by omega) (by omega) (by omega) (by omega)
            refine ⟨fun c185 => ?_, fun c185 => ?_⟩
            · have f52 : r180.toInt ≠ 63 := i_ne (a := r180.toInt) (b := 63) rfl rfl c185
              refine ok_X12_signAt (by omega) (by omega) (by omega) (rp_mono b0 (by omega) (by omega)) (fun r197 f53 f54 f55 f56 f57 f58 => ?_)
              refine ⟨fun c202 => ?_, fun c202 => ?_⟩
              · have f59 : r197.toInt ≠ 43 := i_ne (a := r197.toInt) (b := 43) rfl rfl c202
                exact j_210 0 (by omega) (by omega) (by omega) (by omega)
              · have f60 : r197.toInt = 43 := i_eq (a := r197.toInt) (b := 43) rfl rfl c202
                exact j_210 2 (by omega) (by omega) (by omega) (by omega)
            · have f61 : r180.toInt = 63 := i_eq (a := r180.toInt) (b := 63) rfl rfl c185
              exact j_210 1 (by omega) (by omega) (by omega) (by omega)
          refine ⟨fun c83 => ?_, fun c83 => ?_⟩
          · have f62 : r5.toInt ≠ 123 := i_ne (a := r5.toInt) (b := 123) rfl rfl c83
            exact j_165 r47_0 r47_1 v_at s0_62 s0_77 (by omega) (by omega) (by omega) (by omega) (by omega) (by omega) (by omega) (by omega) (by omega) (by omega) (by omega) (by omega)
          · have f63 : r5.toInt = 123 := i_eq (a := r5.toInt) (b := 123) rfl rfl c83
            intro x92 ex92
            have f64 : x92.toInt = v_at.toInt + 1 := i_add (a := v_at.toInt) (b := 1) ex92 rfl rfl (by omega) (by omega)
            refine ok_X12_numberFrom (by omega) (by omega) (by omega) (by omega) (by omega) (by omega) (by omega) (rp_mono b0 (by omega) (by omega)) (fun r94 r94_0 r94_1 r94_2 r94_3 f65 f66 f67 f68 f69 f70 f71 => ?_)
            have j_144 : ∀ (l3_144 : Int32) (v_fault_144 : Int32) (v_faultAt_144 : Int32) (v_loopLeast_144 : Int32) (v_loopMost_144 : Int32), v_at.toInt + 1 ≤ l3_144.toInt → l3_144.toInt ≤ v_at.toInt + 6 → v_fault.toInt ≤ v_fault_144.toInt → ((1 ≤ v_fault_144.toInt) ∨ (r47_2.toInt ≤ 100)) → ((1 ≤ v_fault_144.toInt) ∨ (0 ≤ v_loopLeast_144.toInt ∧ v_loopLeast_144.toInt ≤ 20)) → ((1 ≤ v_fault_144.toInt) ∨ (0 ≤ v_loopMost_144.toInt + 1 ∧ v_loopMost_144.toInt ≤ 20)) → ((1 ≤ v_fault_144.toInt) ∨ (v_loopMost_144.toInt + 1 = 0) ∨ (v_loopLeast_144.toInt ≤ v_loopMost_144.toInt)) → 0 ≤ v_loopMost_144.toInt + 1 → l3_144.toInt ≤ 200 → v_loopMost_144.toInt ≤ 99 → w_X12_looped_144 p1 v_taped v_tape Q l3_144 v_newNodes v_fault_144 v_faultAt_144 v_at r47_2 v_loopLeast_144 v_loopMost_144 v_newSort v_newValue v_newLeast v_newMost v_newFirst v_newNext v_newMany v_newPart := by
              intro l3_144 v_fault_144 v_faultAt_144 v_loopLeast_144 v_loopMost_144 f72 f73 f74 f75 f76 f77 f78 f79 f80 f81
              unfold w_X12_looped_144
              refine ok_X12_signAt (by omega) (by omega) (by omega) (rp_mono b0 (by omega) (by omega)) (fun r146 f82 f83 f84 f85 f86 f87 => ?_)
              have j_160 : ∀ (v_fault_160 : Int32) (v_faultAt_160 : Int32), v_fault.toInt ≤ v_fault_160.toInt → ((1 ≤ v_fault_160.toInt) ∨ (r47_2.toInt ≤ 100)) → ((1 ≤ v_fault_160.toInt) ∨ (0 ≤ v_loopLeast_144.toInt ∧ v_loopLeast_144.toInt ≤ 20)) → ((1 ≤ v_fault_160.toInt) ∨ (0 ≤ v_loopMost_144.toInt + 1 ∧ v_loopMost_144.toInt ≤ 20)) → ((1 ≤ v_fault_160.toInt) ∨ (v_loopMost_144.toInt + 1 = 0) ∨ (v_loopLeast_144.toInt ≤ v_loopMost_144.toInt)) → ((1 ≤ v_fault_160.toInt) ∨ (l3_144.toInt + 1 ≤ v_taped.toInt)) → ((v_fault_160.toInt = v_fault_144.toInt ∧ r146.toInt = 125) ∨ (v_fault_144.toInt ≤ v_fault_160.toInt ∧ 1 ≤ v_fault_160.toInt)) → w_X12_looped_160 p1 v_taped v_tape Q l3_144 v_newNodes v_fault_160 v_faultAt_160 v_at r47_2 v_loopLeast_144 v_loopMost_144 v_newSort v_newValue v_newLeast v_newMost v_newFirst v_newNext v_newMany v_newPart := by
                intro v_fault_160 v_faultAt_160 f88 f89 f90 f91 f92 f93 f94
                unfold w_X12_looped_160
                exact j_165 v_fault_160 v_faultAt_160 l3_144 v_loopLeast_144 v_loopMost_144 (by omega) (by omega) (by omega) (by omega) (by omega) (by omega) (by omega) (by omega) (by omega) (by omega) (by omega) (by omega)
              refine ⟨fun c151 => ?_, fun c151 => ?_⟩
              · have f95 : r146.toInt = 125 := i_eq (a := r146.toInt) (b := 125) rfl rfl c151
                exact j_160 v_fault_144 v_faultAt_144 (by omega) (by omega) (by omega) (by omega) (by omega) (by omega) (by omega)
              · have f96 : r146.toInt ≠ 125 := i_ne (a := r146.toInt) (b := 125) rfl rfl c151
                refine ok_X12_fail (by omega) (by omega) (by omega) (fun r157_0 r157_1 f97 f98 f99 => ?_)
                exact j_160 r157_0 r157_1 (by omega) (by omega) (by omega) (by omega) (by omega) (by omega) (by omega)
            refine ⟨fun c102 => ?_, fun c102 => ?_⟩
            · have f100 : r94_0.toInt ≠ 0 := i_ne (a := r94_0.toInt) (b := 0) rfl rfl c102
              exact j_144 r94 r94_0 r94_1 r94_2 r94_3 (by omega) (by omega) (by omega) (by omega) (by omega) (by omega) (by omega) (by omega) (by omega) (by omega)
            · have f101 : r94_0.toInt = 0 := i_eq (a := r94_0.toInt) (b := 0) rfl rfl c102
              refine ok_X12_signAt (by omega) (by omega) (by omega) (rp_mono b0 (by omega) (by omega)) (fun r107 f102 f103 f104 f105 f106 f107 => ?_)
              refine ⟨fun c112 => ?_, fun c112 => ?_⟩
              · have f108 : r107.toInt ≠ 44 := i_ne (a := r107.toInt) (b := 44) rfl rfl c112
                exact j_144 r94 r94_0 r94_1 r94_2 r94_3 (by omega) (by omega) (by omega) (by omega) (by omega) (by omega) (by omega) (by omega) (by omega) (by omega)
              · have f109 : r107.toInt = 44 := i_eq (a := r107.toInt) (b := 44) rfl rfl c112
                intro x115 ex115
                have f110 : x115.toInt = r94.toInt + 1 := i_add (a := r94.toInt) (b := 1) ex115 rfl rfl (by omega) (by omega)
                refine ok_X12_signAt (by omega) (by omega) (by omega) (rp_mono b0 (by omega) (by omega)) (fun r120 f111 f112 f113 f114 f115 f116 => ?_)
                refine ok_X12_isDigit  (fun r123 f117 f118 f119 f120 f121 f122 => ?_)
                refine ⟨fun c126 => ?_, fun c126 => ?_⟩
                · have f123 : r123.toInt = 0 := i_eq (a := r123.toInt) (b := 0) rfl rfl c126
                  exact j_144 x115 r94_0 r94_1 r94_2 (-1) (by omega) (by omega) (by omega) (by omega) (by omega) (by omega) (by omega) (by omega) (by omega) (by omega)
                · have f124 : r123.toInt ≠ 0 := i_ne (a := r123.toInt) (b := 0) rfl rfl c126
                  refine ok_X12_numberFrom (by omega) (by omega) (by omega) (by omega) (by omega) (by omega) (by omega) (rp_mono b0 (by omega) (by omega)) (fun r132 r132_0 r132_1 r132_2 r132_3 f125 f126 f127 f128 f129 f130 f131 => ?_)
                  exact j_144 r132 r132_0 r132_1 r132_2 r132_3 (by omega) (by omega) (by omega) (by omega) (by omega) (by omega) (by omega) (by omega) (by omega) (by omega)
        refine ⟨fun c69 => ?_, fun c69 => ?_⟩
        · have f132 : r5.toInt ≠ 63 := i_ne (a := r5.toInt) (b := 63) rfl rfl c69
          exact j_77 (-1) (by omega) (by omega)
        · have f133 : r5.toInt = 63 := i_eq (a := r5.toInt) (b := 63) rfl rfl c69
          exact j_77 1 (by omega) (by omega)
      refine ⟨fun c54 => ?_, fun c54 => ?_⟩
      · have f134 : r5.toInt ≠ 43 := i_ne (a := r5.toInt) (b := 43) rfl rfl c54
        exact j_62 0 (by omega) (by omega) (by omega)
      · have f135 : r5.toInt = 43 := i_eq (a := r5.toInt) (b := 43) rfl rfl c54
        exact j_62 1 (by omega) (by omega) (by omega)
    refine ⟨fun c19 => ?_, fun c19 => ?_⟩
    · have f136 : r5.toInt = 42 := i_eq (a := r5.toInt) (b := 42) rfl rfl c19
      exact j_42  (by omega)
    · have f137 : r5.toInt ≠ 42 := i_ne (a := r5.toInt) (b := 42) rfl rfl c19
      refine ⟨fun c25 => ?_, fun c25 => ?_⟩
      · have f138 : r5.toInt = 43 := i_eq (a := r5.toInt) (b := 43) rfl rfl c25
        exact j_42  (by omega)
      · have f139 : r5.toInt ≠ 43 := i_ne (a := r5.toInt) (b := 43) rfl rfl c25
        refine ⟨fun c31 => ?_, fun c31 => ?_⟩
        · have f140 : r5.toInt = 63 := i_eq (a := r5.toInt) (b := 63) rfl rfl c31
          exact j_42  (by omega)
        · have f141 : r5.toInt ≠ 63 := i_ne (a := r5.toInt) (b := 63) rfl rfl c31
          refine ⟨fun c37 => ?_, fun c37 => ?_⟩
          · have f142 : r5.toInt = 123 := i_eq (a := r5.toInt) (b := 123) rfl rfl c37
            exact j_42  (by omega)
          · have f143 : r5.toInt ≠ 123 := i_ne (a := r5.toInt) (b := 123) rfl rfl c37
            exact j_40  (by omega)
