set_option maxHeartbeats 4000000 in
theorem ok_X12_escaped {v_taped : Int32} {v_newNodes : Int32} {v_newParts : Int32} {v_fault : Int32} {v_faultAt : Int32} {v_at : Int32} {v_newCaptures : Int32} {v_tape : Nat → Int32} {v_newSort : Nat → Int32} {v_newValue : Nat → Int32} {v_newLeast : Nat → Int32} {v_newMost : Nat → Int32} {v_newFirst : Nat → Int32} {v_newNext : Nat → Int32} {v_newMany : Nat → Int32} {v_newPart : Nat → Int32} {v_newBegin : Nat → Int32} {v_newEnd : Nat → Int32} {v_newNames : Nat → Int32} {v_rowFirst : Nat → Int32} {v_rowLast : Nat → Int32} {v_rowMany : Nat → Int32} {v_rowsFirst : Nat → Int32} {v_rowsLast : Nat → Int32} {v_rowsMany : Nat → Int32} {v_groupSort : Nat → Int32} {v_groupValue : Nat → Int32} {v_depth : Int32} {gi9 : Int} {Q : Int32 → Int32 → Int32 → Int32 → Int32 → Int32 → (Nat → Int32) → (Nat → Int32) → (Nat → Int32) → (Nat → Int32) → (Nat → Int32) → (Nat → Int32) → (Nat → Int32) → (Nat → Int32) → (Nat → Int32) → (Nat → Int32) → Prop} (a0 : 0 ≤ v_taped.toInt) (a1 : v_taped.toInt ≤ 200) (a2 : 0 ≤ v_fault.toInt) (a3 : 0 ≤ v_at.toInt) (a4 : v_at.toInt ≤ 900) (a5 : 0 ≤ v_newNodes.toInt) (a6 : v_newNodes.toInt ≤ 259) (a7 : 0 ≤ v_newParts.toInt) (a8 : v_newParts.toInt ≤ 416) (a9 : 0 ≤ v_newCaptures.toInt) (a10 : v_newCaptures.toInt ≤ 9) (b0 : rp (fun k v => 32 ≤ v ∧ v ≤ 126) v_tape 0 v_taped.toInt) (u0 : zRS v_fault.toInt v_newSort v_newValue v_newLeast v_newMost v_newFirst v_newNext v_newMany v_newPart v_newBegin v_newEnd v_rowFirst v_rowLast v_rowMany v_rowsFirst v_rowsLast v_rowsMany v_groupSort v_groupValue v_depth.toInt v_newNodes.toInt v_newParts.toInt v_newCaptures.toInt gi9 v_at.toInt (16 * v_at.toInt)) (hq : ∀ (r : Int32) (ov_newNodes : Int32) (ov_newParts : Int32) (ov_fault : Int32) (ov_faultAt : Int32) (ov_at : Int32) (ov_newSort : Nat → Int32) (ov_newValue : Nat → Int32) (ov_newLeast : Nat → Int32) (ov_newMost : Nat → Int32) (ov_newFirst : Nat → Int32) (ov_newNext : Nat → Int32) (ov_newMany : Nat → Int32) (ov_newPart : Nat → Int32) (ov_newBegin : Nat → Int32) (ov_newEnd : Nat → Int32), r.toInt = v_newNodes.toInt → ov_newNodes.toInt = v_newNodes.toInt + 1 → v_newParts.toInt ≤ ov_newParts.toInt → v_fault.toInt ≤ ov_fault.toInt → v_at.toInt ≤ ov_at.toInt → v_at.toInt + 2 ≤ ov_at.toInt → ov_at.toInt ≤ v_at.toInt + 6 → ov_newParts.toInt ≤ 420 → ((1 ≤ ov_fault.toInt) ∨ (ov_at.toInt ≤ v_taped.toInt)) → ov_newParts.toInt ≤ v_newParts.toInt + 4 → (zRP ov_fault.toInt ov_newSort ov_newValue ov_newLeast ov_newMost ov_newFirst ov_newNext ov_newMany ov_newPart ov_newBegin ov_newEnd v_rowFirst v_rowLast v_rowMany v_rowsFirst v_rowsLast v_rowsMany v_groupSort v_groupValue v_depth.toInt r.toInt ov_newNodes.toInt ov_newParts.toInt v_newCaptures.toInt gi9 ov_at.toInt (16 * ov_at.toInt)) → Q r ov_newNodes ov_newParts ov_fault ov_faultAt ov_at ov_newSort ov_newValue ov_newLeast ov_newMost ov_newFirst ov_newNext ov_newMany ov_newPart ov_newBegin ov_newEnd) : w_X12_escaped v_taped v_newNodes v_newParts v_fault v_faultAt v_at v_newCaptures v_tape v_newSort v_newValue v_newLeast v_newMost v_newFirst v_newNext v_newMany v_newPart v_newBegin v_newEnd v_newNames Q := by
  have q_t : (bz true).toInt = 1 := rfl
  have q_f : (bz false).toInt = 0 := rfl
  have q_0 : (0 : Int32).toInt = 0 := rfl
  have q_1 : (1 : Int32).toInt = 1 := rfl
  have q_2 : (2 : Int32).toInt = 2 := rfl
  have q_3 : (3 : Int32).toInt = 3 := rfl
  have q_4 : (4 : Int32).toInt = 4 := rfl
  have q_48 : (48 : Int32).toInt = 48 := rfl
  have q_49 : (49 : Int32).toInt = 49 := rfl
  have q_57 : (57 : Int32).toInt = 57 := rfl
  have q_65 : (65 : Int32).toInt = 65 := rfl
  have q_90 : (90 : Int32).toInt = 90 := rfl
  have q_95 : (95 : Int32).toInt = 95 := rfl
  have q_97 : (97 : Int32).toInt = 97 := rfl
  have q_122 : (122 : Int32).toInt = 122 := rfl
  unfold w_X12_escaped
  intro x6 ex6
  have f1 : x6.toInt = v_at.toInt + 1 := i_add (a := v_at.toInt) (b := 1) ex6 rfl rfl (by omega) (by omega)
  refine ok_X12_signAt (by omega) (by omega) (by omega) (rp_mono b0 (by omega) (by omega)) (fun r7 f2 f3 f4 f5 f6 f7 => ?_)
  intro x21 ex21
  have f8 : x21.toInt = v_at.toInt + 1 := i_add (a := v_at.toInt) (b := 1) ex21 rfl rfl (by omega) (by omega)
  intro x29 ex29
  have f9 : x29.toInt = v_at.toInt + 2 := i_add (a := v_at.toInt) (b := 2) ex29 rfl rfl (by omega) (by omega)
  have j_45 : ((1 ≤ v_fault.toInt) ∨ (x29.toInt ≤ v_taped.toInt)) → x29.toInt ≤ 900 → x29.toInt ≤ v_taped.toInt → ((r7.toInt = 98) ∨ (r7.toInt = 66)) → w_X12_escaped_45 Q r7 v_newNodes v_newParts v_fault v_faultAt x29 v_newSort v_newValue v_newLeast v_newMost v_newFirst v_newNext v_newMany v_newPart v_newBegin v_newEnd := by
    intro f10 f11 f12 f13
    unfold w_X12_escaped_45
    have j_58 : ∀ (s0_58 : Int32), s0_58.toInt ≤ v_at.toInt + 3 → ((s0_58.toInt = 3) ∨ (s0_58.toInt = 2 ∧ r7.toInt = 98)) → w_X12_escaped_58 Q s0_58 3 v_newNodes v_newParts v_fault v_faultAt x29 v_newSort v_newValue v_newLeast v_newMost v_newFirst v_newNext v_newMany v_newPart v_newBegin v_newEnd := by
      intro s0_58 f14 f15
      unfold w_X12_escaped_58
      refine ok_X12_made (by omega) (by omega) (fun r58 r58_0 r58_1 r58_2 r58_3 r58_4 r58_5 r58_6 r58_7 r58_8 f16 f17 u58_0 => ?_)
      exact hq r58 r58_0 v_newParts v_fault v_faultAt x29 r58_1 r58_2 r58_3 r58_4 r58_5 r58_6 r58_7 r58_8 v_newBegin v_newEnd (by omega) (by omega) (by omega) (by omega) (by omega) (by omega) (by omega) (by omega) (by omega) (by omega) (by exact zRP_leaf u0 (by assumption) (by omega) (by omega) (by omega) (by omega) (by omega) (by omega) (by omega) (by omega))
    refine ⟨fun c50 => ?_, fun c50 => ?_⟩
    · have f18 : r7.toInt ≠ 98 := i_ne (a := r7.toInt) (b := 98) rfl rfl c50
      exact j_58 3 (by omega) (by omega)
    · have f19 : r7.toInt = 98 := i_eq (a := r7.toInt) (b := 98) rfl rfl c50
      exact j_58 2 (by omega) (by omega)
  refine ⟨fun c36 => ?_, fun c36 => ?_⟩
  · have f20 : r7.toInt = 98 := i_eq (a := r7.toInt) (b := 98) rfl rfl c36
    exact j_45  (by omega) (by omega) (by omega) (by omega)
  · have f21 : r7.toInt ≠ 98 := i_ne (a := r7.toInt) (b := 98) rfl rfl c36
    refine ⟨fun c42 => ?_, fun c42 => ?_⟩
    · have f22 : r7.toInt ≠ 66 := i_ne (a := r7.toInt) (b := 66) rfl rfl c42
      have j_74 : ((1 ≤ v_fault.toInt) ∨ (x29.toInt ≤ v_taped.toInt)) → x29.toInt ≤ 900 → x29.toInt ≤ v_taped.toInt → ((r7.toInt = 100) ∨ (r7.toInt = 119)) → w_X12_escaped_74 Q r7 v_newParts v_newNodes v_newParts v_fault v_faultAt x29 v_newSort v_newValue v_newLeast v_newMost v_newFirst v_newNext v_newMany v_newPart v_newBegin v_newEnd := by
        intro f23 f24 f25 f26
        unfold w_X12_escaped_74
        have hp0 := zRS_ps u0
        refine ok_X12_addPart (by omega) (by omega) (fun r79_0 r79_1 r79_2 f27 u79_0 u79_1 => ?_)
        have hp1 : zPs v_fault.toInt r79_1 r79_2 r79_0.toInt _ := zPs_ad hp0 u79_0 u79_1 (by omega) (by decide) (by omega)
        have hb1 : zPb v_newBegin v_newEnd r79_1 r79_2 v_newParts.toInt := zPb_w (zPb_rf (B := v_newBegin) (E := v_newEnd)) u79_0 u79_1 (by omega) (by omega)
        have j_112 : ∀ (v_newParts_112 : Int32) (v_newBegin_112 : Nat → Int32) (v_newEnd_112 : Nat → Int32), v_newParts.toInt ≤ v_newParts_112.toInt → v_newParts_112.toInt ≤ v_newParts.toInt + 4 → ((v_newParts_112.toInt = r79_0.toInt) ∨ (r7.toInt = 119 ∧ v_newParts_112.toInt = r79_0.toInt + 3)) → (zPs v_fault.toInt v_newBegin_112 v_newEnd_112 v_newParts_112.toInt (zsm (zhp v_newBegin v_newEnd) v_newParts.toInt.toNat)) → (zPb v_newBegin v_newEnd v_newBegin_112 v_newEnd_112 v_newParts.toInt) → w_X12_escaped_112 Q v_newParts v_newNodes v_newParts_112 v_fault v_faultAt x29 v_newSort v_newValue v_newLeast v_newMost v_newFirst v_newNext v_newMany v_newPart v_newBegin_112 v_newEnd_112 := by
          intro v_newParts_112 v_newBegin_112 v_newEnd_112 f28 f29 f30 u112_0 u112_1
          unfold w_X12_escaped_112
          refine ok_X12_setNode (v_fault := v_fault) (gh9 := _) (by omega) (by omega) (by omega) (by omega) (by omega) (by omega) (by omega) (by omega) (by first | assumption | omega) (fun r115 r115_0 r115_1 r115_2 r115_3 r115_4 r115_5 r115_6 r115_7 r115_8 r115_9 r115_10 r115_11 f31 f32 f33 f34 f35 f36 f37 f38 u115_0 u115_1 u115_2 => ?_)
          exact hq r115 r115_0 r115_1 v_fault v_faultAt x29 r115_2 r115_3 r115_4 r115_5 r115_6 r115_7 r115_8 r115_9 r115_10 r115_11 (by omega) (by omega) (by omega) (by omega) (by omega) (by omega) (by omega) (by omega) (by omega) (by omega) (by obtain ⟨w9, hw9, hn9⟩ := u115_1; exact zRP_set u0 u115_0 (zPb_tr u112_1 u115_2 (by omega)) hn9 hw9 (by omega) (by omega) (by omega) (by omega) (by omega) (Or.inr (by omega)) (by omega) (Or.inr (by omega)))
        refine ⟨fun c85 => ?_, fun c85 => ?_⟩
        · have f39 : r7.toInt ≠ 119 := i_ne (a := r7.toInt) (b := 119) rfl rfl c85
          exact j_112 r79_0 r79_1 r79_2 (by omega) (by omega) (by omega) (by first | assumption | exact zPs_ad hp3 u109_0 u109_1 (by omega) (by decide) (by omega)) (by first | assumption | exact zPb_w hb3 u109_0 u109_1 (by omega) (by omega))
        · have f40 : r7.toInt = 119 := i_eq (a := r7.toInt) (b := 119) rfl rfl c85
          refine ok_X12_addPart (by omega) (by omega) (fun r93_0 r93_1 r93_2 f41 u93_0 u93_1 => ?_)
          have hp2 : zPs v_fault.toInt r93_1 r93_2 r93_0.toInt _ := zPs_ad hp1 u93_0 u93_1 (by omega) (by decide) (by omega)
          have hb2 : zPb v_newBegin v_newEnd r93_1 r93_2 v_newParts.toInt := zPb_w hb1 u93_0 u93_1 (by omega) (by omega)
          refine ok_X12_addPart (by omega) (by omega) (fun r101_0 r101_1 r101_2 f42 u101_0 u101_1 => ?_)
          have hp3 : zPs v_fault.toInt r101_1 r101_2 r101_0.toInt _ := zPs_ad hp2 u101_0 u101_1 (by omega) (by decide) (by omega)
          have hb3 : zPb v_newBegin v_newEnd r101_1 r101_2 v_newParts.toInt := zPb_w hb2 u101_0 u101_1 (by omega) (by omega)
          refine ok_X12_addPart (by omega) (by omega) (fun r109_0 r109_1 r109_2 f43 u109_0 u109_1 => ?_)
          exact j_112 r109_0 r109_1 r109_2 (by omega) (by omega) (by omega) (by first | assumption | exact zPs_ad hp3 u109_0 u109_1 (by omega) (by decide) (by omega)) (by first | assumption | exact zPb_w hb3 u109_0 u109_1 (by omega) (by omega))
      refine ⟨fun c65 => ?_, fun c65 => ?_⟩
      · have f44 : r7.toInt = 100 := i_eq (a := r7.toInt) (b := 100) rfl rfl c65
        exact j_74  (by omega) (by omega) (by omega) (by omega)
      · have f45 : r7.toInt ≠ 100 := i_ne (a := r7.toInt) (b := 100) rfl rfl c65
        refine ⟨fun c71 => ?_, fun c71 => ?_⟩
        · have f46 : r7.toInt ≠ 119 := i_ne (a := r7.toInt) (b := 119) rfl rfl c71
          refine ok_X12_in  (fun r124 f47 f48 f49 f50 f51 f52 => ?_)
          refine ⟨fun c127 => ?_, fun c127 => ?_⟩
          · have f53 : r124.toInt = 0 := i_eq (a := r124.toInt) (b := 0) rfl rfl c127
            refine ⟨fun c160 => ?_, fun c160 => ?_⟩
            · have f54 : r7.toInt ≠ 64 := i_ne (a := r7.toInt) (b := 64) rfl rfl c160
              refine ⟨fun c237 => ?_, fun c237 => ?_⟩
              · have f55 : r7.toInt ≠ 120 := i_ne (a := r7.toInt) (b := 120) rfl rfl c237
                have j_293 : ∀ (v_fault_293 : Int32) (v_faultAt_293 : Int32), v_fault.toInt ≤ v_fault_293.toInt → ((1 ≤ v_fault_293.toInt) ∨ (x29.toInt ≤ v_taped.toInt)) → ((v_fault_293.toInt = v_fault.toInt ∧ v_faultAt_293.toInt = v_faultAt.toInt) ∨ (v_fault.toInt ≤ v_fault_293.toInt ∧ 1 ≤ v_fault_293.toInt)) → w_X12_escaped_293 Q r7 v_newNodes v_newParts v_fault_293 v_faultAt_293 x29 v_newSort v_newValue v_newLeast v_newMost v_newFirst v_newNext v_newMany v_newPart v_newBegin v_newEnd := by
                  intro v_fault_293 v_faultAt_293 f56 f57 f58
                  unfold w_X12_escaped_293
                  refine ok_X12_made (by omega) (by omega) (fun r296 r296_0 r296_1 r296_2 r296_3 r296_4 r296_5 r296_6 r296_7 r296_8 f59 f60 u296_0 => ?_)
                  exact hq r296 r296_0 v_newParts v_fault_293 v_faultAt_293 x29 r296_1 r296_2 r296_3 r296_4 r296_5 r296_6 r296_7 r296_8 v_newBegin v_newEnd (by omega) (by omega) (by omega) (by omega) (by omega) (by omega) (by omega) (by omega) (by omega) (by omega) (by exact zRP_leaf u0 (by assumption) (by omega) (by omega) (by omega) (by omega) (by omega) (by omega) (by omega) (by omega))
                have j_287 : w_X12_escaped_287 Q r7 x21 v_newNodes v_newParts v_fault v_faultAt x29 v_newSort v_newValue v_newLeast v_newMost v_newFirst v_newNext v_newMany v_newPart v_newBegin v_newEnd := by
                  unfold w_X12_escaped_287
                  refine ok_X12_fail (by omega) (by omega) (by omega) (fun r290_0 r290_1 f61 f62 f63 => ?_)
                  exact j_293 r290_0 r290_1 (by omega) (by omega) (by omega)
                refine ⟨fun c270 => ?_, fun c270 => ?_⟩
                · have f64 : r7.toInt = (-1) := i_eq (a := r7.toInt) (b := (-1)) rfl rfl c270
                  exact j_287  
                · have f65 : r7.toInt ≠ (-1) := i_ne (a := r7.toInt) (b := (-1)) rfl rfl c270
                  refine ok_X12_isLetter  (fun r274 f66 f67 f68 f69 => ?_)
                  refine ⟨fun c277 => ?_, fun c277 => ?_⟩
                  · have f70 : r274.toInt ≠ 0 := i_ne (a := r274.toInt) (b := 0) rfl rfl c277
                    exact j_287  
                  · have f71 : r274.toInt = 0 := i_eq (a := r274.toInt) (b := 0) rfl rfl c277
                    refine ok_X12_isDigit  (fun r281 f72 f73 f74 f75 f76 f77 => ?_)
                    refine ⟨fun c284 => ?_, fun c284 => ?_⟩
                    · have f78 : r281.toInt = 0 := i_eq (a := r281.toInt) (b := 0) rfl rfl c284
                      exact j_293 v_fault v_faultAt (by omega) (by omega) (by omega)
                    · have f79 : r281.toInt ≠ 0 := i_ne (a := r281.toInt) (b := 0) rfl rfl c284
                      exact j_287  
              · have f80 : r7.toInt = 120 := i_eq (a := r7.toInt) (b := 120) rfl rfl c237
                refine ok_X12_hexes (by omega) (by omega) (by omega) (by omega) (by omega) (by omega) (rp_mono b0 (by omega) (by omega)) (fun r245 r245_0 r245_1 f81 f82 f83 f84 f85 u245_0 => ?_)
                intro x256 ex256
                have f86 : x256.toInt = x29.toInt + 4 := i_add (a := x29.toInt) (b := 4) ex256 rfl rfl (by omega) (by omega)
                refine ok_X12_made (by omega) (by omega) (fun r264 r264_0 r264_1 r264_2 r264_3 r264_4 r264_5 r264_6 r264_7 r264_8 f87 f88 u264_0 => ?_)
                exact hq r264 r264_0 v_newParts r245_0 r245_1 x256 r264_1 r264_2 r264_3 r264_4 r264_5 r264_6 r264_7 r264_8 v_newBegin v_newEnd (by omega) (by omega) (by omega) (by omega) (by omega) (by omega) (by omega) (by omega) (by omega) (by omega) (by exact zRP_leaf u0 (by assumption) (by omega) (by omega) (by omega) (by omega) (by omega) (by omega) (by omega) (by omega))
            · have f89 : r7.toInt = 64 := i_eq (a := r7.toInt) (b := 64) rfl rfl c160
              refine ok_X12_signAt (by omega) (by omega) (by omega) (rp_mono b0 (by omega) (by omega)) (fun r168 f90 f91 f92 f93 f94 f95 => ?_)
              refine ok_X12_in  (fun r179 f96 f97 f98 f99 f100 f101 => ?_)
              have j_194 : ∀ (v_fault_194 : Int32) (v_faultAt_194 : Int32), v_fault.toInt ≤ v_fault_194.toInt → ((1 ≤ v_fault_194.toInt) ∨ (x29.toInt + 1 ≤ v_taped.toInt)) → ((v_fault_194.toInt = v_fault.toInt ∧ v_faultAt_194.toInt = v_faultAt.toInt) ∨ (r179.toInt = 0 ∧ v_fault.toInt ≤ v_fault_194.toInt ∧ 1 ≤ v_fault_194.toInt)) → w_X12_escaped_194 v_newCaptures v_newNames Q r168 v_newNodes v_newParts v_fault_194 v_faultAt_194 x29 v_newSort v_newValue v_newLeast v_newMost v_newFirst v_newNext v_newMany v_newPart v_newBegin v_newEnd := by
                intro v_fault_194 v_faultAt_194 f102 f103 f104
                unfold w_X12_escaped_194
                refine ok_X12_captureOf (by omega) (by omega) (fun r197 f105 f106 f107 f108 f109 f110 => ?_)
                have j_216 : ∀ (v_fault_216 : Int32) (v_faultAt_216 : Int32), v_fault.toInt ≤ v_fault_216.toInt → ((1 ≤ v_fault_216.toInt) ∨ (x29.toInt + 1 ≤ v_taped.toInt)) → ((1 ≤ v_fault_216.toInt) ∨ (1 ≤ r197.toInt)) → ((v_fault_216.toInt = v_fault_194.toInt ∧ v_faultAt_216.toInt = v_faultAt_194.toInt) ∨ (r197.toInt = 0 ∧ v_fault_194.toInt ≤ v_fault_216.toInt ∧ 1 ≤ v_fault_216.toInt)) → w_X12_escaped_216 Q r197 v_newNodes v_newParts v_fault_216 v_faultAt_216 x29 v_newSort v_newValue v_newLeast v_newMost v_newFirst v_newNext v_newMany v_newPart v_newBegin v_newEnd := by
                  intro v_fault_216 v_faultAt_216 f111 f112 f113 f114
                  unfold w_X12_escaped_216
                  intro x222 ex222
                  have f115 : x222.toInt = x29.toInt + 1 := i_add (a := x29.toInt) (b := 1) ex222 rfl rfl (by omega) (by omega)
                  refine ok_X12_made (by omega) (by omega) (fun r230 r230_0 r230_1 r230_2 r230_3 r230_4 r230_5 r230_6 r230_7 r230_8 f116 f117 u230_0 => ?_)
                  exact hq r230 r230_0 v_newParts v_fault_216 v_faultAt_216 x222 r230_1 r230_2 r230_3 r230_4 r230_5 r230_6 r230_7 r230_8 v_newBegin v_newEnd (by omega) (by omega) (by omega) (by omega) (by omega) (by omega) (by omega) (by omega) (by omega) (by omega) (by exact zRP_leaf u0 (by assumption) (by omega) (by omega) (by omega) (by omega) (by omega) (by omega) (by omega) (by omega))
                refine ⟨fun c204 => ?_, fun c204 => ?_⟩
                · have f118 : r197.toInt ≠ 0 := i_ne (a := r197.toInt) (b := 0) rfl rfl c204
                  exact j_216 v_fault_194 v_faultAt_194 (by omega) (by omega) (by omega) (by omega)
                · have f119 : r197.toInt = 0 := i_eq (a := r197.toInt) (b := 0) rfl rfl c204
                  refine ok_X12_fail (by omega) (by omega) (by omega) (fun r213_0 r213_1 f120 f121 f122 => ?_)
                  exact j_216 r213_0 r213_1 (by omega) (by omega) (by omega) (by omega)
              refine ⟨fun c182 => ?_, fun c182 => ?_⟩
              · have f123 : r179.toInt ≠ 0 := i_ne (a := r179.toInt) (b := 0) rfl rfl c182
                exact j_194 v_fault v_faultAt (by omega) (by omega) (by omega)
              · have f124 : r179.toInt = 0 := i_eq (a := r179.toInt) (b := 0) rfl rfl c182
                refine ok_X12_fail (by omega) (by omega) (by omega) (fun r191_0 r191_1 f125 f126 f127 => ?_)
                exact j_194 r191_0 r191_1 (by omega) (by omega) (by omega)
          · have f128 : r124.toInt ≠ 0 := i_ne (a := r124.toInt) (b := 0) rfl rfl c127
            intro x133 ex133
            have f129 : x133.toInt = r7.toInt - 48 := i_sub (a := r7.toInt) (b := 48) ex133 rfl rfl (by omega) (by omega)
            have j_147 : ∀ (v_fault_147 : Int32) (v_faultAt_147 : Int32), v_fault.toInt ≤ v_fault_147.toInt → ((v_fault_147.toInt = v_fault.toInt ∧ v_faultAt_147.toInt = v_faultAt.toInt ∧ x133.toInt ≤ v_newCaptures.toInt) ∨ (v_newCaptures.toInt + 1 ≤ x133.toInt ∧ v_fault.toInt ≤ v_fault_147.toInt ∧ 1 ≤ v_fault_147.toInt)) → w_X12_escaped_147 Q r7 v_newNodes v_newParts v_fault_147 v_faultAt_147 x29 v_newSort v_newValue v_newLeast v_newMost v_newFirst v_newNext v_newMany v_newPart v_newBegin v_newEnd := by
              intro v_fault_147 v_faultAt_147 f130 f131
              unfold w_X12_escaped_147
              intro x152 ex152
              have f132 : x152.toInt = r7.toInt - 48 := i_sub (a := r7.toInt) (b := 48) ex152 rfl rfl (by omega) (by omega)
              refine ok_X12_made (by omega) (by omega) (fun r153 r153_0 r153_1 r153_2 r153_3 r153_4 r153_5 r153_6 r153_7 r153_8 f133 f134 u153_0 => ?_)
              exact hq r153 r153_0 v_newParts v_fault_147 v_faultAt_147 x29 r153_1 r153_2 r153_3 r153_4 r153_5 r153_6 r153_7 r153_8 v_newBegin v_newEnd (by omega) (by omega) (by omega) (by omega) (by omega) (by omega) (by omega) (by omega) (by omega) (by omega) (by exact zRP_leaf u0 (by assumption) (by omega) (by omega) (by omega) (by omega) (by omega) (by omega) (by omega) (by omega))
            refine ⟨fun c138 => ?_, fun c138 => ?_⟩
            · have f135 : x133.toInt ≤ v_newCaptures.toInt := i_le (a := x133.toInt) (b := v_newCaptures.toInt) rfl rfl c138
              exact j_147 v_fault v_faultAt (by omega) (by omega)
            · have f136 : v_newCaptures.toInt < x133.toInt := i_nle (a := x133.toInt) (b := v_newCaptures.toInt) rfl rfl c138
              refine ok_X12_fail (by omega) (by omega) (by omega) (fun r144_0 r144_1 f137 f138 f139 => ?_)
              exact j_147 r144_0 r144_1 (by omega) (by omega)
        · have f140 : r7.toInt = 119 := i_eq (a := r7.toInt) (b := 119) rfl rfl c71
          exact j_74  (by omega) (by omega) (by omega) (by omega)
    · have f141 : r7.toInt = 66 := i_eq (a := r7.toInt) (b := 66) rfl rfl c42
      exact j_45  (by omega) (by omega) (by omega) (by omega)
set_option maxHeartbeats 4000000 in
theorem ok_X12_looped {p1 : Int32} {v_taped : Int32} {v_newNodes : Int32} {v_fault : Int32} {v_faultAt : Int32} {v_at : Int32} {v_items : Int32} {v_loopLeast : Int32} {v_loopMost : Int32} {v_tape : Nat → Int32} {v_newSort : Nat → Int32} {v_newValue : Nat → Int32} {v_newLeast : Nat → Int32} {v_newMost : Nat → Int32} {v_newFirst : Nat → Int32} {v_newNext : Nat → Int32} {v_newMany : Nat → Int32} {v_newPart : Nat → Int32} {v_newBegin : Nat → Int32} {v_newEnd : Nat → Int32} {v_rowFirst : Nat → Int32} {v_rowLast : Nat → Int32} {v_rowMany : Nat → Int32} {v_rowsFirst : Nat → Int32} {v_rowsLast : Nat → Int32} {v_rowsMany : Nat → Int32} {v_groupSort : Nat → Int32} {v_groupValue : Nat → Int32} {v_newParts : Int32} {v_newCaptures : Int32} {v_depth : Int32} {gi9 : Int} {ga9 : Int} {gw9 : Int} {Q : Int32 → Int32 → Int32 → Int32 → Int32 → Int32 → Int32 → Int32 → (Nat → Int32) → (Nat → Int32) → (Nat → Int32) → (Nat → Int32) → (Nat → Int32) → (Nat → Int32) → (Nat → Int32) → (Nat → Int32) → Prop} (a0 : 0 ≤ v_taped.toInt) (a1 : v_taped.toInt ≤ 200) (a2 : ((1 ≤ v_fault.toInt) ∨ (v_at.toInt ≤ v_taped.toInt))) (a3 : 0 ≤ v_fault.toInt) (a4 : 0 ≤ v_at.toInt) (a5 : v_at.toInt ≤ 1000) (a6 : 0 ≤ v_newNodes.toInt) (a7 : v_newNodes.toInt ≤ 259) (a8 : 0 ≤ v_items.toInt) (a9 : v_items.toInt ≤ 102) (a10 : ((1 ≤ v_fault.toInt) ∨ (v_items.toInt ≤ 100))) (a11 : 0 ≤ p1.toInt) (a12 : p1.toInt ≤ 259) (b0 : rp (fun k v => 32 ≤ v ∧ v ≤ 126) v_tape 0 v_taped.toInt) (u0 : zRP v_fault.toInt v_newSort v_newValue v_newLeast v_newMost v_newFirst v_newNext v_newMany v_newPart v_newBegin v_newEnd v_rowFirst v_rowLast v_rowMany v_rowsFirst v_rowsLast v_rowsMany v_groupSort v_groupValue v_depth.toInt p1.toInt v_newNodes.toInt v_newParts.toInt v_newCaptures.toInt gi9 ga9 gw9) (u1 : gi9 + 1 ≤ v_items.toInt) (u2 : ga9 ≤ v_at.toInt) (u3 : gw9 ≤ 16 * v_at.toInt) (hq : ∀ (r : Int32) (ov_newNodes : Int32) (ov_fault : Int32) (ov_faultAt : Int32) (ov_at : Int32) (ov_items : Int32) (ov_loopLeast : Int32) (ov_loopMost : Int32) (ov_newSort : Nat → Int32) (ov_newValue : Nat → Int32) (ov_newLeast : Nat → Int32) (ov_newMost : Nat → Int32) (ov_newFirst : Nat → Int32) (ov_newNext : Nat → Int32) (ov_newMany : Nat → Int32) (ov_newPart : Nat → Int32), v_newNodes.toInt ≤ ov_newNodes.toInt → v_fault.toInt ≤ ov_fault.toInt → v_at.toInt ≤ ov_at.toInt → ov_at.toInt ≤ v_at.toInt + 8 → v_items.toInt ≤ ov_items.toInt → 0 ≤ r.toInt → r.toInt ≤ 259 → ov_newNodes.toInt ≤ 260 → ov_at.toInt ≤ 1000 → ov_items.toInt ≤ 102 → ((1 ≤ ov_fault.toInt) ∨ (ov_at.toInt ≤ v_taped.toInt)) → ov_newNodes.toInt ≤ v_newNodes.toInt + 1 → ov_newNodes.toInt + v_at.toInt ≤ ov_at.toInt + v_newNodes.toInt → ov_items.toInt ≤ v_items.toInt + 1 → ((1 ≤ ov_fault.toInt) ∨ (ov_items.toInt ≤ 100)) → (zRP ov_fault.toInt ov_newSort ov_newValue ov_newLeast ov_newMost ov_newFirst ov_newNext ov_newMany ov_newPart v_newBegin v_newEnd v_rowFirst v_rowLast v_rowMany v_rowsFirst v_rowsLast v_rowsMany v_groupSort v_groupValue v_depth.toInt r.toInt ov_newNodes.toInt v_newParts.toInt v_newCaptures.toInt ov_items.toInt ov_at.toInt (16 * ov_at.toInt)) → Q r ov_newNodes ov_fault ov_faultAt ov_at ov_items ov_loopLeast ov_loopMost ov_newSort ov_newValue ov_newLeast ov_newMost ov_newFirst ov_newNext ov_newMany ov_newPart) : w_X12_looped p1 v_taped v_newNodes v_fault v_faultAt v_at v_items v_loopLeast v_loopMost v_tape v_newSort v_newValue v_newLeast v_newMost v_newFirst v_newNext v_newMany v_newPart Q := by
  have q_t : (bz true).toInt = 1 := rfl
  have q_f : (bz false).toInt = 0 := rfl
  have q_m1 : ((-1) : Int32).toInt = (-1) := rfl
  have q_0 : (0 : Int32).toInt = 0 := rfl
  have q_1 : (1 : Int32).toInt = 1 := rfl
  have q_2 : (2 : Int32).toInt = 2 := rfl
  have q_7 : (7 : Int32).toInt = 7 := rfl
  unfold w_X12_looped
  refine ok_X12_signAt (by omega) (by omega) (by omega) (rp_mono b0 (by omega) (by omega)) (fun r5 f1 f2 f3 f4 f5 f6 => ?_)
  have j_40 : ((1 ≤ v_fault.toInt) ∨ (v_fault.toInt ≤ 0)) → w_X12_looped_40 p1 Q v_newNodes v_fault v_faultAt v_at v_items v_loopLeast v_loopMost v_newSort v_newValue v_newLeast v_newMost v_newFirst v_newNext v_newMany v_newPart := by
    intro f7
    unfold w_X12_looped_40
    exact hq p1 v_newNodes v_fault v_faultAt v_at v_items v_loopLeast v_loopMost v_newSort v_newValue v_newLeast v_newMost v_newFirst v_newNext v_newMany v_newPart (by omega) (by omega) (by omega) (by omega) (by omega) (by omega) (by omega) (by omega) (by omega) (by omega) (by omega) (by omega) (by omega) (by omega) (by omega) (by exact zRP_mono u0 (by omega) (by omega) (by omega) (by omega))
  refine ⟨fun c13 => ?_, fun c13 => ?_⟩
  · have f8 : 0 < v_fault.toInt := i_lt (a := 0) (b := v_fault.toInt) rfl rfl c13
    exact j_40  (by omega)
  · have f9 : v_fault.toInt ≤ 0 := i_nlt (a := 0) (b := v_fault.toInt) rfl rfl c13
    have j_42 : ((1 ≤ v_fault.toInt) ∨ (v_at.toInt + 1 ≤ v_taped.toInt)) → w_X12_looped_42 p1 v_taped v_tape Q r5 v_newNodes v_fault v_faultAt v_at v_items v_loopLeast v_loopMost v_newSort v_newValue v_newLeast v_newMost v_newFirst v_newNext v_newMany v_newPart := by
      intro f10
      unfold w_X12_looped_42
      refine ok_X12_countItem (by omega) (by omega) (by omega) (fun r47_0 r47_1 r47_2 f11 f12 f13 f14 => ?_)
      have j_62 : ∀ (s0_62 : Int32), s0_62.toInt ≤ v_at.toInt + 1 → 0 ≤ s0_62.toInt → ((s0_62.toInt = 0) ∨ (s0_62.toInt = 1 ∧ r5.toInt = 43)) → w_X12_looped_62 p1 v_taped v_tape Q s0_62 r5 v_newNodes r47_0 r47_1 v_at r47_2 v_loopLeast v_loopMost v_newSort v_newValue v_newLeast v_newMost v_newFirst v_newNext v_newMany v_newPart := by
        intro s0_62 f15 f16 f17
        unfold w_X12_looped_62
        have j_77 : ∀ (s0_77 : Int32), s0_77.toInt ≤ v_at.toInt + 1 → ((s0_77.toInt + 1 = 0) ∨ (s0_77.toInt = 1 ∧ r5.toInt = 63)) → w_X12_looped_77 p1 v_taped v_tape Q s0_77 r5 v_newNodes r47_0 r47_1 v_at r47_2 s0_62 v_loopMost v_newSort v_newValue v_newLeast v_newMost v_newFirst v_newNext v_newMany v_newPart := by
          intro s0_77 f18 f19
          unfold w_X12_looped_77
          have j_165 : ∀ (v_fault_165 : Int32) (v_faultAt_165 : Int32) (v_at_165 : Int32) (v_loopLeast_165 : Int32) (v_loopMost_165 : Int32), v_fault.toInt ≤ v_fault_165.toInt → v_at.toInt ≤ v_at_165.toInt → v_at_165.toInt ≤ v_at.toInt + 6 → ((1 ≤ v_fault_165.toInt) ∨ (v_at_165.toInt ≤ v_taped.toInt)) → ((1 ≤ v_fault_165.toInt) ∨ (r47_2.toInt ≤ 100)) → ((1 ≤ v_fault_165.toInt) ∨ (0 ≤ v_loopLeast_165.toInt ∧ v_loopLeast_165.toInt ≤ 20)) → ((1 ≤ v_fault_165.toInt) ∨ (0 ≤ v_loopMost_165.toInt + 1 ∧ v_loopMost_165.toInt ≤ 20)) → ((1 ≤ v_fault_165.toInt) ∨ (v_loopMost_165.toInt + 1 = 0) ∨ (v_loopLeast_165.toInt ≤ v_loopMost_165.toInt)) → ((1 ≤ v_fault_165.toInt) ∨ (v_at_165.toInt + 1 ≤ v_taped.toInt)) → 0 ≤ v_loopMost_165.toInt + 1 → v_at_165.toInt ≤ 200 → v_loopMost_165.toInt ≤ 99 → w_X12_looped_165 p1 v_taped v_tape Q v_newNodes v_fault_165 v_faultAt_165 v_at_165 r47_2 v_loopLeast_165 v_loopMost_165 v_newSort v_newValue v_newLeast v_newMost v_newFirst v_newNext v_newMany v_newPart := by
            intro v_fault_165 v_faultAt_165 v_at_165 v_loopLeast_165 v_loopMost_165 f20 f21 f22 f23 f24 f25 f26 f27 f28 f29 f30 f31
            unfold w_X12_looped_165
            intro x171 ex171
            have f32 : x171.toInt = v_at_165.toInt + 1 := i_add (a := v_at_165.toInt) (b := 1) ex171 rfl rfl (by omega) (by omega)
            refine ok_X12_signAt (by omega) (by omega) (by omega) (rp_mono b0 (by omega) (by omega)) (fun r180 f33 f34 f35 f36 f37 f38 => ?_)
            have j_210 : ∀ (s0_210 : Int32), s0_210.toInt ≤ v_at.toInt + 2 → 0 ≤ s0_210.toInt → ((s0_210.toInt ≤ 0) ∨ (x171.toInt + 1 ≤ v_taped.toInt)) → ((s0_210.toInt = 0) ∨ (s0_210.toInt = 2) ∨ (s0_210.toInt = 1 ∧ r180.toInt = 63)) → w_X12_looped_210 p1 Q s0_210 v_newNodes v_fault_165 v_faultAt_165 x171 r47_2 v_loopLeast_165 v_loopMost_165 v_newSort v_newValue v_newLeast v_newMost v_newFirst v_newNext v_newMany v_newPart := by
              intro s0_210 f39 f40 f41 f42
              unfold w_X12_looped_210
              have j_225 : ∀ (s0_225 : Int32), s0_225.toInt ≤ v_at.toInt + 1 → 0 ≤ s0_225.toInt → ((s0_225.toInt ≤ 0) ∨ (x171.toInt + 1 ≤ v_taped.toInt)) → ((s0_225.toInt = 0 ∧ s0_210.toInt ≤ 0) ∨ (s0_225.toInt = 1 ∧ 1 ≤ s0_210.toInt)) → w_X12_looped_225 p1 Q s0_225 x171 s0_210 v_newNodes v_fault_165 v_faultAt_165 x171 r47_2 v_loopLeast_165 v_loopMost_165 v_newSort v_newValue v_newLeast v_newMost v_newFirst v_newNext v_newMany v_newPart := by
                intro s0_225 f43 f44 f45 f46
                unfold w_X12_looped_225
                intro x225 ex225
                have f47 : x225.toInt = x171.toInt + s0_225.toInt := i_add (a := x171.toInt) (b := s0_225.toInt) ex225 rfl rfl (by omega) (by omega)
                refine ok_X12_holding (by omega) (by omega) (fun r234 r234_0 r234_1 r234_2 r234_3 r234_4 r234_5 r234_6 r234_7 r234_8 f48 f49 u234_0 => ?_)
                refine ⟨i_in (by omega) (by omega), ?_⟩
                intro g249 eg249
                refine ⟨i_in (by omega) (by omega), ?_⟩
                intro g260 eg260
                exact hq r234 r234_0 v_fault_165 v_faultAt_165 x225 r47_2 v_loopLeast_165 v_loopMost_165 r234_1 r234_2 g249 g260 r234_5 r234_6 r234_7 r234_8 (by omega) (by omega) (by omega) (by omega) (by omega) (by omega) (by omega) (by omega) (by omega) (by omega) (by omega) (by omega) (by omega) (by omega) (by omega) (by exact zRP_loop u0 (by assumption) (by assumption) (by assumption) (by omega) (by omega) (by omega) (by omega) (by omega) (by omega) (by omega) (by omega))
              refine ⟨fun c217 => ?_, fun c217 => ?_⟩
              · have f50 : s0_210.toInt ≤ 0 := i_le (a := s0_210.toInt) (b := 0) rfl rfl c217
                exact j_225 0 (by omega) (by omega) (by omega) (by omega)
              · have f51 : 0 < s0_210.toInt := i_nle (a := s0_210.toInt) (b := 0) rfl rfl c217
                exact j_225 1 (by omega) (by omega) (by omega) (by omega)
            refine ⟨fun c185 => ?_, fun c185 => ?_⟩
            · have f52 : r180.toInt ≠ 63 := i_ne (a := r180.toInt) (b := 63) rfl rfl c185
              refine ok_X12_signAt (by omega) (by omega) (by omega) (rp_mono b0 (by omega) (by omega)) (fun r197 f53 f54 f55 f56 f57 f58 => ?_)
              refine ⟨fun c202 => ?_, fun c202 => ?_⟩
              · have f59 : r197.toInt ≠ 43 := i_ne (a := r197.toInt) (b := 43) rfl rfl c202
                exact j_210 0 (by omega) (by omega) (by omega) (by omega)
              · have f60 : r197.toInt = 43 := i_eq (a := r197.toInt) (b := 43) rfl rfl c202
                exact j_210 2 (by omega) (by omega) (by omega) (by omega)
            · have f61 : r180.toInt = 63 := i_eq (a := r180.toInt) (b := 63) rfl rfl c185
              exact j_210 1 (by omega) (by omega) (by omega) (by omega)
          refine ⟨fun c83 => ?_, fun c83 => ?_⟩
          · have f62 : r5.toInt ≠ 123 := i_ne (a := r5.toInt) (b := 123) rfl rfl c83
            exact j_165 r47_0 r47_1 v_at s0_62 s0_77 (by omega) (by omega) (by omega) (by omega) (by omega) (by omega) (by omega) (by omega) (by omega) (by omega) (by omega) (by omega)
          · have f63 : r5.toInt = 123 := i_eq (a := r5.toInt) (b := 123) rfl rfl c83
            intro x92 ex92
            have f64 : x92.toInt = v_at.toInt + 1 := i_add (a := v_at.toInt) (b := 1) ex92 rfl rfl (by omega) (by omega)
            refine ok_X12_numberFrom (by omega) (by omega) (by omega) (by omega) (by omega) (by omega) (by omega) (rp_mono b0 (by omega) (by omega)) (fun r94 r94_0 r94_1 r94_2 r94_3 f65 f66 f67 f68 f69 f70 f71 => ?_)
            have j_144 : ∀ (l3_144 : Int32) (v_fault_144 : Int32) (v_faultAt_144 : Int32) (v_loopLeast_144 : Int32) (v_loopMost_144 : Int32), v_at.toInt + 1 ≤ l3_144.toInt → l3_144.toInt ≤ v_at.toInt + 6 → v_fault.toInt ≤ v_fault_144.toInt → ((1 ≤ v_fault_144.toInt) ∨ (r47_2.toInt ≤ 100)) → ((1 ≤ v_fault_144.toInt) ∨ (0 ≤ v_loopLeast_144.toInt ∧ v_loopLeast_144.toInt ≤ 20)) → ((1 ≤ v_fault_144.toInt) ∨ (0 ≤ v_loopMost_144.toInt + 1 ∧ v_loopMost_144.toInt ≤ 20)) → ((1 ≤ v_fault_144.toInt) ∨ (v_loopMost_144.toInt + 1 = 0) ∨ (v_loopLeast_144.toInt ≤ v_loopMost_144.toInt)) → 0 ≤ v_loopMost_144.toInt + 1 → l3_144.toInt ≤ 200 → v_loopMost_144.toInt ≤ 99 → w_X12_looped_144 p1 v_taped v_tape Q l3_144 v_newNodes v_fault_144 v_faultAt_144 v_at r47_2 v_loopLeast_144 v_loopMost_144 v_newSort v_newValue v_newLeast v_newMost v_newFirst v_newNext v_newMany v_newPart := by
              intro l3_144 v_fault_144 v_faultAt_144 v_loopLeast_144 v_loopMost_144 f72 f73 f74 f75 f76 f77 f78 f79 f80 f81
              unfold w_X12_looped_144
              refine ok_X12_signAt (by omega) (by omega) (by omega) (rp_mono b0 (by omega) (by omega)) (fun r146 f82 f83 f84 f85 f86 f87 => ?_)
              have j_160 : ∀ (v_fault_160 : Int32) (v_faultAt_160 : Int32), v_fault.toInt ≤ v_fault_160.toInt → ((1 ≤ v_fault_160.toInt) ∨ (r47_2.toInt ≤ 100)) → ((1 ≤ v_fault_160.toInt) ∨ (0 ≤ v_loopLeast_144.toInt ∧ v_loopLeast_144.toInt ≤ 20)) → ((1 ≤ v_fault_160.toInt) ∨ (0 ≤ v_loopMost_144.toInt + 1 ∧ v_loopMost_144.toInt ≤ 20)) → ((1 ≤ v_fault_160.toInt) ∨ (v_loopMost_144.toInt + 1 = 0) ∨ (v_loopLeast_144.toInt ≤ v_loopMost_144.toInt)) → ((1 ≤ v_fault_160.toInt) ∨ (l3_144.toInt + 1 ≤ v_taped.toInt)) → ((v_fault_160.toInt = v_fault_144.toInt ∧ r146.toInt = 125) ∨ (v_fault_144.toInt ≤ v_fault_160.toInt ∧ 1 ≤ v_fault_160.toInt)) → w_X12_looped_160 p1 v_taped v_tape Q l3_144 v_newNodes v_fault_160 v_faultAt_160 v_at r47_2 v_loopLeast_144 v_loopMost_144 v_newSort v_newValue v_newLeast v_newMost v_newFirst v_newNext v_newMany v_newPart := by
                intro v_fault_160 v_faultAt_160 f88 f89 f90 f91 f92 f93 f94
                unfold w_X12_looped_160
                exact j_165 v_fault_160 v_faultAt_160 l3_144 v_loopLeast_144 v_loopMost_144 (by omega) (by omega) (by omega) (by omega) (by omega) (by omega) (by omega) (by omega) (by omega) (by omega) (by omega) (by omega)
              refine ⟨fun c151 => ?_, fun c151 => ?_⟩
              · have f95 : r146.toInt = 125 := i_eq (a := r146.toInt) (b := 125) rfl rfl c151
                exact j_160 v_fault_144 v_faultAt_144 (by omega) (by omega) (by omega) (by omega) (by omega) (by omega) (by omega)
              · have f96 : r146.toInt ≠ 125 := i_ne (a := r146.toInt) (b := 125) rfl rfl c151
                refine ok_X12_fail (by omega) (by omega) (by omega) (fun r157_0 r157_1 f97 f98 f99 => ?_)
                exact j_160 r157_0 r157_1 (by omega) (by omega) (by omega) (by omega) (by omega) (by omega) (by omega)
            refine ⟨fun c102 => ?_, fun c102 => ?_⟩
            · have f100 : r94_0.toInt ≠ 0 := i_ne (a := r94_0.toInt) (b := 0) rfl rfl c102
              exact j_144 r94 r94_0 r94_1 r94_2 r94_3 (by omega) (by omega) (by omega) (by omega) (by omega) (by omega) (by omega) (by omega) (by omega) (by omega)
            · have f101 : r94_0.toInt = 0 := i_eq (a := r94_0.toInt) (b := 0) rfl rfl c102
              refine ok_X12_signAt (by omega) (by omega) (by omega) (rp_mono b0 (by omega) (by omega)) (fun r107 f102 f103 f104 f105 f106 f107 => ?_)
              refine ⟨fun c112 => ?_, fun c112 => ?_⟩
              · have f108 : r107.toInt ≠ 44 := i_ne (a := r107.toInt) (b := 44) rfl rfl c112
                exact j_144 r94 r94_0 r94_1 r94_2 r94_3 (by omega) (by omega) (by omega) (by omega) (by omega) (by omega) (by omega) (by omega) (by omega) (by omega)
              · have f109 : r107.toInt = 44 := i_eq (a := r107.toInt) (b := 44) rfl rfl c112
                intro x115 ex115
                have f110 : x115.toInt = r94.toInt + 1 := i_add (a := r94.toInt) (b := 1) ex115 rfl rfl (by omega) (by omega)
                refine ok_X12_signAt (by omega) (by omega) (by omega) (rp_mono b0 (by omega) (by omega)) (fun r120 f111 f112 f113 f114 f115 f116 => ?_)
                refine ok_X12_isDigit  (fun r123 f117 f118 f119 f120 f121 f122 => ?_)
                refine ⟨fun c126 => ?_, fun c126 => ?_⟩
                · have f123 : r123.toInt = 0 := i_eq (a := r123.toInt) (b := 0) rfl rfl c126
                  exact j_144 x115 r94_0 r94_1 r94_2 (-1) (by omega) (by omega) (by omega) (by omega) (by omega) (by omega) (by omega) (by omega) (by omega) (by omega)
                · have f124 : r123.toInt ≠ 0 := i_ne (a := r123.toInt) (b := 0) rfl rfl c126
                  refine ok_X12_numberFrom (by omega) (by omega) (by omega) (by omega) (by omega) (by omega) (by omega) (rp_mono b0 (by omega) (by omega)) (fun r132 r132_0 r132_1 r132_2 r132_3 f125 f126 f127 f128 f129 f130 f131 => ?_)
                  exact j_144 r132 r132_0 r132_1 r132_2 r132_3 (by omega) (by omega) (by omega) (by omega) (by omega) (by omega) (by omega) (by omega) (by omega) (by omega)
        refine ⟨fun c69 => ?_, fun c69 => ?_⟩
        · have f132 : r5.toInt ≠ 63 := i_ne (a := r5.toInt) (b := 63) rfl rfl c69
          exact j_77 (-1) (by omega) (by omega)
        · have f133 : r5.toInt = 63 := i_eq (a := r5.toInt) (b := 63) rfl rfl c69
          exact j_77 1 (by omega) (by omega)
      refine ⟨fun c54 => ?_, fun c54 => ?_⟩
      · have f134 : r5.toInt ≠ 43 := i_ne (a := r5.toInt) (b := 43) rfl rfl c54
        exact j_62 0 (by omega) (by omega) (by omega)
      · have f135 : r5.toInt = 43 := i_eq (a := r5.toInt) (b := 43) rfl rfl c54
        exact j_62 1 (by omega) (by omega) (by omega)
    refine ⟨fun c19 => ?_, fun c19 => ?_⟩
    · have f136 : r5.toInt = 42 := i_eq (a := r5.toInt) (b := 42) rfl rfl c19
      exact j_42  (by omega)
    · have f137 : r5.toInt ≠ 42 := i_ne (a := r5.toInt) (b := 42) rfl rfl c19
      refine ⟨fun c25 => ?_, fun c25 => ?_⟩
      · have f138 : r5.toInt = 43 := i_eq (a := r5.toInt) (b := 43) rfl rfl c25
        exact j_42  (by omega)
      · have f139 : r5.toInt ≠ 43 := i_ne (a := r5.toInt) (b := 43) rfl rfl c25
        refine ⟨fun c31 => ?_, fun c31 => ?_⟩
        · have f140 : r5.toInt = 63 := i_eq (a := r5.toInt) (b := 63) rfl rfl c31
          exact j_42  (by omega)
        · have f141 : r5.toInt ≠ 63 := i_ne (a := r5.toInt) (b := 63) rfl rfl c31
          refine ⟨fun c37 => ?_, fun c37 => ?_⟩
          · have f142 : r5.toInt = 123 := i_eq (a := r5.toInt) (b := 123) rfl rfl c37
            exact j_42  (by omega)
          · have f143 : r5.toInt ≠ 123 := i_ne (a := r5.toInt) (b := 123) rfl rfl c37
            exact j_40  (by omega)
set_option maxHeartbeats 4000000 in
theorem ok_X12_openGroup {v_taped : Int32} {v_fault : Int32} {v_faultAt : Int32} {v_at : Int32} {v_items : Int32} {v_newCaptures : Int32} {v_depth : Int32} {v_tape : Nat → Int32} {v_newNames : Nat → Int32} {v_groupSort : Nat → Int32} {v_groupValue : Nat → Int32} {v_rowFirst : Nat → Int32} {v_rowLast : Nat → Int32} {v_rowMany : Nat → Int32} {v_rowsFirst : Nat → Int32} {v_rowsLast : Nat → Int32} {v_rowsMany : Nat → Int32} {v_newSort : Nat → Int32} {v_newValue : Nat → Int32} {v_newLeast : Nat → Int32} {v_newMost : Nat → Int32} {v_newFirst : Nat → Int32} {v_newNext : Nat → Int32} {v_newMany : Nat → Int32} {v_newPart : Nat → Int32} {v_newBegin : Nat → Int32} {v_newEnd : Nat → Int32} {v_newNodes : Int32} {v_newParts : Int32} {Q : Int32 → Int32 → Int32 → Int32 → Int32 → Int32 → (Nat → Int32) → (Nat → Int32) → (Nat → Int32) → (Nat → Int32) → (Nat → Int32) → (Nat → Int32) → (Nat → Int32) → (Nat → Int32) → (Nat → Int32) → Prop} (a0 : 0 ≤ v_taped.toInt) (a1 : v_taped.toInt ≤ 200) (a2 : 0 ≤ v_at.toInt) (a3 : v_at.toInt + 1 ≤ v_taped.toInt) (a4 : 0 ≤ v_depth.toInt) (a5 : v_depth.toInt ≤ 9) (a6 : 0 ≤ v_newCaptures.toInt) (a7 : v_newCaptures.toInt ≤ 9) (a8 : 0 ≤ v_items.toInt) (a9 : v_items.toInt ≤ 100) (a10 : 0 ≤ v_fault.toInt) (b0 : rp (fun k v => 32 ≤ v ∧ v ≤ 126) v_tape 0 v_taped.toInt) (b1 : qp2 (fun k m l => (m = 0) ∨ (0 ≤ l ∧ l ≤ 259)) v_rowMany v_rowFirst 0 12) (b2 : qp2 (fun k m l => (m = 0) ∨ (0 ≤ l ∧ l ≤ 259)) v_rowsMany v_rowsFirst 0 12) (b3 : qp2 (fun k m l => (m = 0) ∨ (0 ≤ l ∧ l ≤ 259)) v_rowMany v_rowLast 0 12) (b4 : qp2 (fun k m l => (m = 0) ∨ (0 ≤ l ∧ l ≤ 259)) v_rowsMany v_rowsLast 0 12) (b5 : rp (fun k v => -1 ≤ v ∧ v ≤ 259) v_rowFirst 0 12) (b6 : rp (fun k v => -1 ≤ v ∧ v ≤ 259) v_rowLast 0 12) (b7 : rp (fun k v => -1 ≤ v ∧ v ≤ 259) v_rowsFirst 0 12) (b8 : rp (fun k v => -1 ≤ v ∧ v ≤ 259) v_rowsLast 0 12) (u0 : zRS v_fault.toInt v_newSort v_newValue v_newLeast v_newMost v_newFirst v_newNext v_newMany v_newPart v_newBegin v_newEnd v_rowFirst v_rowLast v_rowMany v_rowsFirst v_rowsLast v_rowsMany v_groupSort v_groupValue v_depth.toInt v_newNodes.toInt v_newParts.toInt v_newCaptures.toInt v_items.toInt v_at.toInt (16 * v_at.toInt)) (hq : ∀ (ov_fault : Int32) (ov_faultAt : Int32) (ov_at : Int32) (ov_items : Int32) (ov_newCaptures : Int32) (ov_depth : Int32) (ov_newNames : Nat → Int32) (ov_groupSort : Nat → Int32) (ov_groupValue : Nat → Int32) (ov_rowFirst : Nat → Int32) (ov_rowLast : Nat → Int32) (ov_rowMany : Nat → Int32) (ov_rowsFirst : Nat → Int32) (ov_rowsLast : Nat → Int32) (ov_rowsMany : Nat → Int32), v_fault.toInt ≤ ov_fault.toInt → v_at.toInt ≤ ov_at.toInt → v_items.toInt ≤ ov_items.toInt → v_newCaptures.toInt ≤ ov_newCaptures.toInt → ov_newCaptures.toInt ≤ v_at.toInt + 9 → v_depth.toInt ≤ ov_depth.toInt → ov_depth.toInt ≤ v_at.toInt + 9 → ov_at.toInt ≤ 201 → ov_items.toInt ≤ 101 → ov_newCaptures.toInt ≤ 9 → ov_depth.toInt ≤ 9 → ((1 ≤ ov_fault.toInt) ∨ (ov_at.toInt ≤ v_taped.toInt)) → ((v_at.toInt + 1 ≤ ov_at.toInt) ∨ (1 ≤ ov_fault.toInt)) → 2 * ov_depth.toInt + v_at.toInt + v_newCaptures.toInt ≤ ov_at.toInt + ov_newCaptures.toInt + 2 * v_depth.toInt → ov_items.toInt ≤ v_items.toInt + 1 → ((1 ≤ ov_fault.toInt) ∨ (ov_items.toInt ≤ 100)) → qp2 (fun k m l => (m = 0) ∨ (0 ≤ l ∧ l ≤ 259)) ov_rowMany ov_rowFirst 0 12 → qp2 (fun k m l => (m = 0) ∨ (0 ≤ l ∧ l ≤ 259)) ov_rowsMany ov_rowsFirst 0 12 → qp2 (fun k m l => (m = 0) ∨ (0 ≤ l ∧ l ≤ 259)) ov_rowMany ov_rowLast 0 12 → qp2 (fun k m l => (m = 0) ∨ (0 ≤ l ∧ l ≤ 259)) ov_rowsMany ov_rowsLast 0 12 → rp (fun k v => -1 ≤ v ∧ v ≤ 259) ov_rowFirst 0 12 → rp (fun k v => -1 ≤ v ∧ v ≤ 259) ov_rowLast 0 12 → rp (fun k v => -1 ≤ v ∧ v ≤ 259) ov_rowsFirst 0 12 → rp (fun k v => -1 ≤ v ∧ v ≤ 259) ov_rowsLast 0 12 → qp2 (fun k m l => (m = 0) ∨ (0 ≤ l ∧ l ≤ 259)) ov_rowsMany v_rowsFirst 0 12 → qp2 (fun k m l => (m = 0) ∨ (0 ≤ l ∧ l ≤ 259)) ov_rowsMany v_rowsLast 0 12 → qp2 (fun k m l => (m = 0) ∨ (0 ≤ l ∧ l ≤ 259)) ov_rowMany v_rowFirst 0 12 → qp2 (fun k m l => (m = 0) ∨ (0 ≤ l ∧ l ≤ 259)) ov_rowMany v_rowLast 0 12 → (zRS ov_fault.toInt v_newSort v_newValue v_newLeast v_newMost v_newFirst v_newNext v_newMany v_newPart v_newBegin v_newEnd ov_rowFirst ov_rowLast ov_rowMany ov_rowsFirst ov_rowsLast ov_rowsMany ov_groupSort ov_groupValue ov_depth.toInt v_newNodes.toInt v_newParts.toInt ov_newCaptures.toInt ov_items.toInt ov_at.toInt (16 * ov_at.toInt)) → Q ov_fault ov_faultAt ov_at ov_items ov_newCaptures ov_depth ov_newNames ov_groupSort ov_groupValue ov_rowFirst ov_rowLast ov_rowMany ov_rowsFirst ov_rowsLast ov_rowsMany) : w_X12_openGroup v_taped v_fault v_faultAt v_at v_items v_newCaptures v_depth v_tape v_newNames v_groupSort v_groupValue v_rowFirst v_rowLast v_rowMany v_rowsFirst v_rowsLast v_rowsMany Q := by
  have q_t : (bz true).toInt = 1 := rfl
  have q_f : (bz false).toInt = 0 := rfl
  have q_0 : (0 : Int32).toInt = 0 := rfl
  have q_1 : (1 : Int32).toInt = 1 := rfl
  have q_2 : (2 : Int32).toInt = 2 := rfl
  have q_3 : (3 : Int32).toInt = 3 := rfl
  have q_5 : (5 : Int32).toInt = 5 := rfl
  have q_8 : (8 : Int32).toInt = 8 := rfl
  have q_9 : (9 : Int32).toInt = 9 := rfl
  have q_10 : (10 : Int32).toInt = 10 := rfl
  have q_11 : (11 : Int32).toInt = 11 := rfl
  have q_97 : (97 : Int32).toInt = 97 := rfl
  have q_122 : (122 : Int32).toInt = 122 := rfl
  unfold w_X12_openGroup
  intro x6 ex6
  have f1 : x6.toInt = v_at.toInt + 1 := i_add (a := v_at.toInt) (b := 1) ex6 rfl rfl (by omega) (by omega)
  refine ok_X12_signAt (by omega) (by omega) (by omega) (rp_mono b0 (by omega) (by omega)) (fun r7 f2 f3 f4 f5 f6 f7 => ?_)
  refine ⟨fun c14 => ?_, fun c14 => ?_⟩
  · have f8 : r7.toInt ≠ 35 := i_ne (a := r7.toInt) (b := 35) rfl rfl c14
    have j_119 : ∀ (s0_119 : Int32), s0_119.toInt ≤ v_at.toInt + 1 → ((s0_119.toInt = 0) ∨ (v_at.toInt + 2 ≤ v_taped.toInt)) → ((s0_119.toInt = 0) ∨ (s0_119.toInt = 1 ∧ v_at.toInt + 2 ≤ v_taped.toInt)) → w_X12_openGroup_119 v_taped v_tape Q s0_119 r7 v_fault v_faultAt v_at v_items v_newCaptures v_depth v_newNames v_groupSort v_groupValue v_rowFirst v_rowLast v_rowMany v_rowsFirst v_rowsLast v_rowsMany := by
      intro s0_119 f9 f10 f11
      unfold w_X12_openGroup_119
      have j_151 : ∀ (v_fault_151 : Int32) (v_faultAt_151 : Int32), v_fault.toInt ≤ v_fault_151.toInt → ((1 ≤ v_fault_151.toInt) ∨ (v_depth.toInt ≤ 8)) → ((1 ≤ v_fault_151.toInt) ∨ (v_newCaptures.toInt ≤ 8) ∨ (s0_119.toInt = 1)) → ((v_fault_151.toInt = v_fault.toInt ∧ v_faultAt_151.toInt = v_faultAt.toInt ∧ v_depth.toInt ≤ 8) ∨ (v_fault_151.toInt = v_fault.toInt ∧ v_faultAt_151.toInt = v_faultAt.toInt ∧ v_depth.toInt ≤ 8 ∧ s0_119.toInt = 0) ∨ (v_fault.toInt ≤ v_fault_151.toInt ∧ 1 ≤ v_fault_151.toInt)) → w_X12_openGroup_151 v_taped v_tape Q r7 s0_119 v_fault_151 v_faultAt_151 v_at v_items v_newCaptures v_depth v_newNames v_groupSort v_groupValue v_rowFirst v_rowLast v_rowMany v_rowsFirst v_rowsLast v_rowsMany := by
        intro v_fault_151 v_faultAt_151 f12 f13 f14 f15
        unfold w_X12_openGroup_151
        refine ok_X12_countItem (by omega) (by omega) (by omega) (fun r156_0 r156_1 r156_2 f16 f17 f18 f19 => ?_)
        refine ⟨fun c163 => ?_, fun c163 => ?_⟩
        · have f20 : r156_0.toInt ≤ 0 := i_le (a := r156_0.toInt) (b := 0) rfl rfl c163
          intro x173 ex173
          have f21 : x173.toInt = v_depth.toInt + 1 := i_add (a := v_depth.toInt) (b := 1) ex173 rfl rfl (by omega) (by omega)
          refine ⟨fun c178 => ?_, fun c178 => ?_⟩
          · have f22 : s0_119.toInt ≠ 0 := i_ne (a := s0_119.toInt) (b := 0) rfl rfl c178
            have j_335 : ∀ (s0_335 : Int32), s0_335.toInt ≤ v_at.toInt + 11 → 5 ≤ s0_335.toInt → s0_335.toInt ≤ 11 → (s0_335.toInt = 5 ∨ (9 ≤ s0_335.toInt ∧ s0_335.toInt ≤ 11)) → w_X12_openGroup_335 Q s0_335 r7 r156_0 r156_1 v_at r156_2 v_newCaptures x173 v_newNames v_groupSort v_groupValue v_rowFirst v_rowLast v_rowMany v_rowsFirst v_rowsLast v_rowsMany := by
              intro s0_335 f23 f24 f25 u335_0
              unfold w_X12_openGroup_335
              have j_366 : ∀ (s0_366 : Int32), s0_366.toInt ≤ v_at.toInt + 3 → 0 ≤ s0_366.toInt → s0_366.toInt ≤ 3 → w_X12_openGroup_366 Q s0_366 s0_335 r156_0 r156_1 v_at r156_2 v_newCaptures x173 v_newNames v_groupSort v_groupValue v_rowFirst v_rowLast v_rowMany v_rowsFirst v_rowsLast v_rowsMany := by
                intro s0_366 f26 f27 f28
                unfold w_X12_openGroup_366
                refine ok_X12_beginGroup (by omega) (by omega) (qp2_mono b1 (by omega) (by omega)) (qp2_mono b2 (by omega) (by omega)) (qp2_mono b3 (by omega) (by omega)) (qp2_mono b4 (by omega) (by omega)) (rp_mono b5 (by omega) (by omega)) (rp_mono b6 (by omega) (by omega)) (rp_mono b7 (by omega) (by omega)) (rp_mono b8 (by omega) (by omega)) (fun r366_0 r366_1 r366_2 r366_3 r366_4 r366_5 r366_6 r366_7 h29 h30 h31 h32 h33 h34 h35 h36 h37 h38 h39 h40 u366_0 u366_1 u366_2 u366_3 u366_4 u366_5 u366_6 u366_7 => ?_)
                intro x375 ex375
                have f41 : x375.toInt = v_at.toInt + 2 := i_add (a := v_at.toInt) (b := 2) ex375 rfl rfl (by omega) (by omega)
                exact hq r156_0 r156_1 x375 r156_2 v_newCaptures x173 v_newNames r366_0 r366_1 r366_2 r366_3 r366_4 r366_5 r366_6 r366_7 (by omega) (by omega) (by omega) (by omega) (by omega) (by omega) (by omega) (by omega) (by omega) (by omega) (by omega) (by omega) (by omega) (by omega) (by omega) (by omega) (qp2_mono h37 (by omega) (by omega)) (qp2_mono h31 (by omega) (by omega)) (qp2_mono h38 (by omega) (by omega)) (qp2_mono h32 (by omega) (by omega)) (rp_mono h35 (by omega) (by omega)) (rp_mono h36 (by omega) (by omega)) (rp_mono h29 (by omega) (by omega)) (rp_mono h30 (by omega) (by omega)) (qp2_mono h33 (by omega) (by omega)) (qp2_mono h34 (by omega) (by omega)) (qp2_mono h39 (by omega) (by omega)) (qp2_mono h40 (by omega) (by omega)) (by exact zRS_open u0 (by assumption) (by assumption) (by assumption) (by assumption) (by assumption) (by assumption) (by assumption) (by assumption) (by omega) (by omega) (by omega) (by omega) (by omega) (by omega) (by omega))
              refine ⟨fun c338 => ?_, fun c338 => ?_⟩
              · have f42 : r7.toInt ≠ 33 := i_ne (a := r7.toInt) (b := 33) rfl rfl c338
                refine ⟨fun c348 => ?_, fun c348 => ?_⟩
                · have f43 : r7.toInt ≠ 60 := i_ne (a := r7.toInt) (b := 60) rfl rfl c348
                  refine ⟨fun c358 => ?_, fun c358 => ?_⟩
                  · have f44 : r7.toInt ≠ 126 := i_ne (a := r7.toInt) (b := 126) rfl rfl c358
                    exact j_366 0 (by omega) (by omega) (by omega)
                  · have f45 : r7.toInt = 126 := i_eq (a := r7.toInt) (b := 126) rfl rfl c358
                    exact j_366 3 (by omega) (by omega) (by omega)
                · have f46 : r7.toInt = 60 := i_eq (a := r7.toInt) (b := 60) rfl rfl c348
                  exact j_366 2 (by omega) (by omega) (by omega)
              · have f47 : r7.toInt = 33 := i_eq (a := r7.toInt) (b := 33) rfl rfl c338
                exact j_366 1 (by omega) (by omega) (by omega)
            refine ⟨fun c304 => ?_, fun c304 => ?_⟩
            · have f48 : r7.toInt ≠ 58 := i_ne (a := r7.toInt) (b := 58) rfl rfl c304
              refine ⟨fun c314 => ?_, fun c314 => ?_⟩
              · have f49 : r7.toInt ≠ 42 := i_ne (a := r7.toInt) (b := 42) rfl rfl c314
                refine ⟨fun c325 => ?_, fun c325 => ?_⟩
                · have f50 : r7.toInt ≠ 37 := i_ne (a := r7.toInt) (b := 37) rfl rfl c325
                  exact j_335 9 (by omega) (by omega) (by omega) (by omega)
                · have f51 : r7.toInt = 37 := i_eq (a := r7.toInt) (b := 37) rfl rfl c325
                  exact j_335 11 (by omega) (by omega) (by omega) (by omega)
              · have f52 : r7.toInt = 42 := i_eq (a := r7.toInt) (b := 42) rfl rfl c314
                exact j_335 10 (by omega) (by omega) (by omega) (by omega)
            · have f53 : r7.toInt = 58 := i_eq (a := r7.toInt) (b := 58) rfl rfl c304
              exact j_335 5 (by omega) (by omega) (by omega) (by omega)
          · have f54 : s0_119.toInt = 0 := i_eq (a := s0_119.toInt) (b := 0) rfl rfl c178
            intro x187 ex187
            have f55 : x187.toInt = v_newCaptures.toInt + 1 := i_add (a := v_newCaptures.toInt) (b := 1) ex187 rfl rfl (by omega) (by omega)
            refine ⟨i_in (by omega) (by omega), ?_⟩
            intro g200 eg200
            have j_269 : ∀ (v_fault_269 : Int32) (v_faultAt_269 : Int32) (v_newNames_269 : Nat → Int32), v_fault.toInt ≤ v_fault_269.toInt → v_fault_269.toInt ≤ v_at.toInt + 3 → ((1 ≤ v_fault_269.toInt) ∨ (r7.toInt ≠ 64) ∨ (v_at.toInt + 3 ≤ v_taped.toInt)) → ((v_fault_269.toInt = r156_0.toInt ∧ v_faultAt_269.toInt = r156_1.toInt) ∨ (r7.toInt = 64 ∧ v_fault.toInt ≤ v_fault_269.toInt ∧ v_fault_269.toInt ≤ v_at.toInt + 3 ∧ v_fault_269.toInt ≤ 3)) → w_X12_openGroup_269 Q r7 v_fault_269 v_faultAt_269 v_at r156_2 x187 x173 v_newNames_269 v_groupSort v_groupValue v_rowFirst v_rowLast v_rowMany v_rowsFirst v_rowsLast v_rowsMany := by
              intro v_fault_269 v_faultAt_269 v_newNames_269 f56 f57 f58 f59
              unfold w_X12_openGroup_269
              refine ok_X12_beginGroup (by omega) (by omega) (qp2_mono b1 (by omega) (by omega)) (qp2_mono b2 (by omega) (by omega)) (qp2_mono b3 (by omega) (by omega)) (qp2_mono b4 (by omega) (by omega)) (rp_mono b5 (by omega) (by omega)) (rp_mono b6 (by omega) (by omega)) (rp_mono b7 (by omega) (by omega)) (rp_mono b8 (by omega) (by omega)) (fun r276_0 r276_1 r276_2 r276_3 r276_4 r276_5 r276_6 r276_7 h60 h61 h62 h63 h64 h65 h66 h67 h68 h69 h70 h71 u276_0 u276_1 u276_2 u276_3 u276_4 u276_5 u276_6 u276_7 => ?_)
              have j_295 : ∀ (s0_295 : Int32), s0_295.toInt ≤ v_at.toInt + 3 → ((s0_295.toInt = 1) ∨ (s0_295.toInt = 3 ∧ r7.toInt = 64)) → w_X12_openGroup_295 Q s0_295 v_at v_fault_269 v_faultAt_269 v_at r156_2 x187 x173 v_newNames_269 r276_0 r276_1 r276_2 r276_3 r276_4 r276_5 r276_6 r276_7 := by
                intro s0_295 f72 f73
                unfold w_X12_openGroup_295
                intro x295 ex295
                have f74 : x295.toInt = v_at.toInt + s0_295.toInt := i_add (a := v_at.toInt) (b := s0_295.toInt) ex295 rfl rfl (by omega) (by omega)
                exact hq v_fault_269 v_faultAt_269 x295 r156_2 x187 x173 v_newNames_269 r276_0 r276_1 r276_2 r276_3 r276_4 r276_5 r276_6 r276_7 (by omega) (by omega) (by omega) (by omega) (by omega) (by omega) (by omega) (by omega) (by omega) (by omega) (by omega) (by omega) (by omega) (by omega) (by omega) (by omega) (qp2_mono h68 (by omega) (by omega)) (qp2_mono h62 (by omega) (by omega)) (qp2_mono h69 (by omega) (by omega)) (qp2_mono h63 (by omega) (by omega)) (rp_mono h66 (by omega) (by omega)) (rp_mono h67 (by omega) (by omega)) (rp_mono h60 (by omega) (by omega)) (rp_mono h61 (by omega) (by omega)) (qp2_mono h64 (by omega) (by omega)) (qp2_mono h65 (by omega) (by omega)) (qp2_mono h70 (by omega) (by omega)) (qp2_mono h71 (by omega) (by omega)) (by exact zRS_open u0 (by assumption) (by assumption) (by assumption) (by assumption) (by assumption) (by assumption) (by assumption) (by assumption) (by omega) (by omega) (by omega) (by omega) (by omega) (by omega) (by omega))
              refine ⟨fun c287 => ?_, fun c287 => ?_⟩
              · have f75 : r7.toInt ≠ 64 := i_ne (a := r7.toInt) (b := 64) rfl rfl c287
                exact j_295 1 (by omega) (by omega)
              · have f76 : r7.toInt = 64 := i_eq (a := r7.toInt) (b := 64) rfl rfl c287
                exact j_295 3 (by omega) (by omega)
            refine ⟨fun c204 => ?_, fun c204 => ?_⟩
            · have f77 : r7.toInt ≠ 64 := i_ne (a := r7.toInt) (b := 64) rfl rfl c204
              exact j_269 r156_0 r156_1 g200 (by omega) (by omega) (by omega) (by omega)
            · have f78 : r7.toInt = 64 := i_eq (a := r7.toInt) (b := 64) rfl rfl c204
              intro x213 ex213
              have f79 : x213.toInt = v_at.toInt + 2 := i_add (a := v_at.toInt) (b := 2) ex213 rfl rfl (by omega) (by omega)
              refine ok_X12_signAt (by omega) (by omega) (by omega) (rp_mono b0 (by omega) (by omega)) (fun r214 f80 f81 f82 f83 f84 f85 => ?_)
              refine ok_X12_in  (fun r223 f86 f87 f88 f89 f90 f91 => ?_)
              have j_240 : ∀ (v_fault_240 : Int32) (v_faultAt_240 : Int32), v_fault.toInt ≤ v_fault_240.toInt → v_fault_240.toInt ≤ v_at.toInt + 1 → ((1 ≤ v_fault_240.toInt) ∨ (r7.toInt ≠ 64) ∨ (v_at.toInt + 3 ≤ v_taped.toInt)) → ((v_fault_240.toInt = r156_0.toInt ∧ v_faultAt_240.toInt = r156_1.toInt) ∨ (r223.toInt = 0 ∧ r156_0.toInt ≤ v_fault_240.toInt ∧ 1 ≤ v_fault_240.toInt)) → v_fault_240.toInt ≤ 1 → w_X12_openGroup_240 Q r7 r214 v_fault_240 v_faultAt_240 v_at r156_2 x187 x173 g200 v_groupSort v_groupValue v_rowFirst v_rowLast v_rowMany v_rowsFirst v_rowsLast v_rowsMany := by
                intro v_fault_240 v_faultAt_240 f92 f93 f94 f95 f96
                unfold w_X12_openGroup_240
                refine ok_X12_captureOf (by omega) (by omega) (fun r242 f97 f98 f99 f100 f101 f102 => ?_)
                have j_259 : ∀ (v_fault_259 : Int32) (v_faultAt_259 : Int32), v_fault.toInt ≤ v_fault_259.toInt → v_fault_259.toInt ≤ v_at.toInt + 3 → ((1 ≤ v_fault_259.toInt) ∨ (r7.toInt ≠ 64) ∨ (v_at.toInt + 3 ≤ v_taped.toInt)) → ((v_fault_259.toInt = v_fault_240.toInt ∧ v_faultAt_259.toInt = v_faultAt_240.toInt ∧ r242.toInt ≤ 0) ∨ (1 ≤ r242.toInt ∧ v_fault_240.toInt ≤ v_fault_259.toInt ∧ 1 ≤ v_fault_259.toInt)) → v_fault_259.toInt ≤ 3 → w_X12_openGroup_259 Q r7 r214 v_fault_259 v_faultAt_259 v_at r156_2 x187 x173 g200 v_groupSort v_groupValue v_rowFirst v_rowLast v_rowMany v_rowsFirst v_rowsLast v_rowsMany := by
                  intro v_fault_259 v_faultAt_259 f103 f104 f105 f106 f107
                  unfold w_X12_openGroup_259
                  refine ⟨i_in (by omega) (by omega), ?_⟩
                  intro g268 eg268
                  exact j_269 v_fault_259 v_faultAt_259 g268 (by omega) (by omega) (by omega) (by omega)
                refine ⟨fun c245 => ?_, fun c245 => ?_⟩
                · have f108 : r242.toInt ≤ 0 := i_le (a := r242.toInt) (b := 0) rfl rfl c245
                  exact j_259 v_fault_240 v_faultAt_240 (by omega) (by omega) (by omega) (by omega) (by omega)
                · have f109 : 0 < r242.toInt := i_nle (a := r242.toInt) (b := 0) rfl rfl c245
                  intro x255 ex255
                  have f110 : x255.toInt = v_at.toInt + 2 := i_add (a := v_at.toInt) (b := 2) ex255 rfl rfl (by omega) (by omega)
                  refine ok_X12_fail (by omega) (by omega) (by omega) (fun r256_0 r256_1 f111 f112 f113 => ?_)
                  exact j_259 r256_0 r256_1 (by omega) (by omega) (by omega) (by omega) (by omega)
              refine ⟨fun c226 => ?_, fun c226 => ?_⟩
              · have f114 : r223.toInt ≠ 0 := i_ne (a := r223.toInt) (b := 0) rfl rfl c226
                exact j_240 r156_0 r156_1 (by omega) (by omega) (by omega) (by omega) (by omega)
              · have f115 : r223.toInt = 0 := i_eq (a := r223.toInt) (b := 0) rfl rfl c226
                intro x236 ex236
                have f116 : x236.toInt = v_at.toInt + 2 := i_add (a := v_at.toInt) (b := 2) ex236 rfl rfl (by omega) (by omega)
                refine ok_X12_fail (by omega) (by omega) (by omega) (fun r237_0 r237_1 f117 f118 f119 => ?_)
                exact j_240 r237_0 r237_1 (by omega) (by omega) (by omega) (by omega) (by omega)
        · have f120 : 0 < r156_0.toInt := i_nle (a := r156_0.toInt) (b := 0) rfl rfl c163
          exact hq r156_0 r156_1 v_at r156_2 v_newCaptures v_depth v_newNames v_groupSort v_groupValue v_rowFirst v_rowLast v_rowMany v_rowsFirst v_rowsLast v_rowsMany (by omega) (by omega) (by omega) (by omega) (by omega) (by omega) (by omega) (by omega) (by omega) (by omega) (by omega) (by omega) (by omega) (by omega) (by omega) (by omega) (qp2_mono b1 (by omega) (by omega)) (qp2_mono b2 (by omega) (by omega)) (qp2_mono b3 (by omega) (by omega)) (qp2_mono b4 (by omega) (by omega)) (rp_mono b5 (by omega) (by omega)) (rp_mono b6 (by omega) (by omega)) (rp_mono b7 (by omega) (by omega)) (rp_mono b8 (by omega) (by omega)) (qp2_mono b2 (by omega) (by omega)) (qp2_mono b4 (by omega) (by omega)) (qp2_mono b1 (by omega) (by omega)) (qp2_mono b3 (by omega) (by omega)) (by exact Or.inl (by omega))
      have j_142 : ((9 ≤ v_depth.toInt) ∨ (v_depth.toInt ≤ 8 ∧ s0_119.toInt = 0 ∧ v_newCaptures.toInt = 9)) → w_X12_openGroup_142 v_taped v_tape Q r7 s0_119 v_fault v_faultAt v_at v_items v_newCaptures v_depth v_newNames v_groupSort v_groupValue v_rowFirst v_rowLast v_rowMany v_rowsFirst v_rowsLast v_rowsMany := by
        intro f121
        unfold w_X12_openGroup_142
        refine ok_X12_fail (by omega) (by omega) (by omega) (fun r148_0 r148_1 f122 f123 f124 => ?_)
        exact j_151 r148_0 r148_1 (by omega) (by omega) (by omega) (by omega)
      refine ⟨fun c126 => ?_, fun c126 => ?_⟩
      · have f125 : 8 < v_depth.toInt := i_lt (a := 8) (b := v_depth.toInt) rfl rfl c126
        exact j_142  (by omega)
      · have f126 : v_depth.toInt ≤ 8 := i_nlt (a := 8) (b := v_depth.toInt) rfl rfl c126
        refine ⟨fun c130 => ?_, fun c130 => ?_⟩
        · have f127 : s0_119.toInt ≠ 0 := i_ne (a := s0_119.toInt) (b := 0) rfl rfl c130
          exact j_151 v_fault v_faultAt (by omega) (by omega) (by omega) (by omega)
        · have f128 : s0_119.toInt = 0 := i_eq (a := s0_119.toInt) (b := 0) rfl rfl c130
          refine ⟨fun c139 => ?_, fun c139 => ?_⟩
          · have f129 : v_newCaptures.toInt ≠ 9 := i_ne (a := v_newCaptures.toInt) (b := 9) rfl rfl c139
            exact j_151 v_fault v_faultAt (by omega) (by omega) (by omega) (by omega)
          · have f130 : v_newCaptures.toInt = 9 := i_eq (a := v_newCaptures.toInt) (b := 9) rfl rfl c139
            exact j_142  (by omega)
    have j_114 : ((1 ≤ v_fault.toInt) ∨ (r7.toInt ≠ 64) ∨ (v_at.toInt + 3 ≤ v_taped.toInt)) → v_at.toInt + 2 ≤ v_taped.toInt → w_X12_openGroup_114 v_taped v_tape Q r7 v_fault v_faultAt v_at v_items v_newCaptures v_depth v_newNames v_groupSort v_groupValue v_rowFirst v_rowLast v_rowMany v_rowsFirst v_rowsLast v_rowsMany := by
      intro f131 f132
      unfold w_X12_openGroup_114
      exact j_119 1 (by omega) (by omega) (by omega)
    refine ⟨fun c75 => ?_, fun c75 => ?_⟩
    · have f133 : r7.toInt = 58 := i_eq (a := r7.toInt) (b := 58) rfl rfl c75
      exact j_114  (by omega) (by omega)
    · have f134 : r7.toInt ≠ 58 := i_ne (a := r7.toInt) (b := 58) rfl rfl c75
      refine ⟨fun c81 => ?_, fun c81 => ?_⟩
      · have f135 : r7.toInt = 61 := i_eq (a := r7.toInt) (b := 61) rfl rfl c81
        exact j_114  (by omega) (by omega)
      · have f136 : r7.toInt ≠ 61 := i_ne (a := r7.toInt) (b := 61) rfl rfl c81
        refine ⟨fun c87 => ?_, fun c87 => ?_⟩
        · have f137 : r7.toInt = 33 := i_eq (a := r7.toInt) (b := 33) rfl rfl c87
          exact j_114  (by omega) (by omega)
        · have f138 : r7.toInt ≠ 33 := i_ne (a := r7.toInt) (b := 33) rfl rfl c87
          refine ⟨fun c93 => ?_, fun c93 => ?_⟩
          · have f139 : r7.toInt = 60 := i_eq (a := r7.toInt) (b := 60) rfl rfl c93
            exact j_114  (by omega) (by omega)
          · have f140 : r7.toInt ≠ 60 := i_ne (a := r7.toInt) (b := 60) rfl rfl c93
            refine ⟨fun c99 => ?_, fun c99 => ?_⟩
            · have f141 : r7.toInt = 126 := i_eq (a := r7.toInt) (b := 126) rfl rfl c99
              exact j_114  (by omega) (by omega)
            · have f142 : r7.toInt ≠ 126 := i_ne (a := r7.toInt) (b := 126) rfl rfl c99
              refine ⟨fun c105 => ?_, fun c105 => ?_⟩
              · have f143 : r7.toInt = 42 := i_eq (a := r7.toInt) (b := 42) rfl rfl c105
                exact j_114  (by omega) (by omega)
              · have f144 : r7.toInt ≠ 42 := i_ne (a := r7.toInt) (b := 42) rfl rfl c105
                refine ⟨fun c111 => ?_, fun c111 => ?_⟩
                · have f145 : r7.toInt ≠ 37 := i_ne (a := r7.toInt) (b := 37) rfl rfl c111
                  exact j_119 0 (by omega) (by omega) (by omega)
                · have f146 : r7.toInt = 37 := i_eq (a := r7.toInt) (b := 37) rfl rfl c111
                  exact j_114  (by omega) (by omega)
  · have f147 : r7.toInt = 35 := i_eq (a := r7.toInt) (b := 35) rfl rfl c14
    intro x22 ex22
    have f148 : x22.toInt = v_at.toInt + 2 := i_add (a := v_at.toInt) (b := 2) ex22 rfl rfl (by omega) (by omega)
    have j_24 : ∀ n_24 : Nat, ∀ (l2_24 : Int32), x22.toInt ≤ l2_24.toInt → l2_24.toInt ≤ v_taped.toInt → ((-1) * l2_24.toInt + 2147483648).toNat < n_24 → w_X12_openGroup_24 v_taped v_tape Q v_fault v_faultAt v_at v_items v_newCaptures v_depth v_newNames v_groupSort v_groupValue v_rowFirst v_rowLast v_rowMany v_rowsFirst v_rowsLast v_rowsMany n_24 l2_24 := by
      intro n_24
      induction n_24 with
      | zero =>
        intro l2_24 f149 f150 hm_24
        exfalso; omega
      | succ n_24 ih_24 =>
        intro l2_24 f149 f150 hm_24
        unfold w_X12_openGroup_24
        unfold w_X12_openGroup_24B
        refine ok_X12_signAt (by omega) (by omega) (by omega) (rp_mono b0 (by omega) (by omega)) (fun r26 f151 f152 f153 f154 f155 f156 => ?_)
        have j_49 : w_X12_openGroup_49 v_taped v_tape Q l2_24 v_fault v_faultAt v_at v_items v_newCaptures v_depth v_newNames v_groupSort v_groupValue v_rowFirst v_rowLast v_rowMany v_rowsFirst v_rowsLast v_rowsMany := by
          unfold w_X12_openGroup_49
          refine ok_X12_signAt (by omega) (by omega) (by omega) (rp_mono b0 (by omega) (by omega)) (fun r51 f157 f158 f159 f160 f161 f162 => ?_)
          have j_64 : ∀ (v_fault_64 : Int32) (v_faultAt_64 : Int32), v_fault.toInt ≤ v_fault_64.toInt → ((1 ≤ v_fault_64.toInt) ∨ (l2_24.toInt + 1 ≤ v_taped.toInt)) → ((v_fault_64.toInt = v_fault.toInt ∧ v_faultAt_64.toInt = v_faultAt.toInt) ∨ (r51.toInt + 1 = 0 ∧ v_fault.toInt ≤ v_fault_64.toInt ∧ 1 ≤ v_fault_64.toInt)) → w_X12_openGroup_64 Q l2_24 v_fault_64 v_faultAt_64 v_at v_items v_newCaptures v_depth v_newNames v_groupSort v_groupValue v_rowFirst v_rowLast v_rowMany v_rowsFirst v_rowsLast v_rowsMany := by
            intro v_fault_64 v_faultAt_64 f163 f164 f165
            unfold w_X12_openGroup_64
            intro x67 ex67
            have f166 : x67.toInt = l2_24.toInt + 1 := i_add (a := l2_24.toInt) (b := 1) ex67 rfl rfl (by omega) (by omega)
            exact hq v_fault_64 v_faultAt_64 x67 v_items v_newCaptures v_depth v_newNames v_groupSort v_groupValue v_rowFirst v_rowLast v_rowMany v_rowsFirst v_rowsLast v_rowsMany (by omega) (by omega) (by omega) (by omega) (by omega) (by omega) (by omega) (by omega) (by omega) (by omega) (by omega) (by omega) (by omega) (by omega) (by omega) (by omega) (qp2_mono b1 (by omega) (by omega)) (qp2_mono b2 (by omega) (by omega)) (qp2_mono b3 (by omega) (by omega)) (qp2_mono b4 (by omega) (by omega)) (rp_mono b5 (by omega) (by omega)) (rp_mono b6 (by omega) (by omega)) (rp_mono b7 (by omega) (by omega)) (rp_mono b8 (by omega) (by omega)) (qp2_mono b2 (by omega) (by omega)) (qp2_mono b4 (by omega) (by omega)) (qp2_mono b1 (by omega) (by omega)) (qp2_mono b3 (by omega) (by omega)) (by exact zRS_mono u0 (by omega) (by omega) (by omega) (by omega))
          refine ⟨fun c55 => ?_, fun c55 => ?_⟩
          · have f167 : r51.toInt ≠ (-1) := i_ne (a := r51.toInt) (b := (-1)) rfl rfl c55
            exact j_64 v_fault v_faultAt (by omega) (by omega) (by omega)
          · have f168 : r51.toInt = (-1) := i_eq (a := r51.toInt) (b := (-1)) rfl rfl c55
            refine ok_X12_fail (by omega) (by omega) (by omega) (fun r61_0 r61_1 f169 f170 f171 => ?_)
            exact j_64 r61_0 r61_1 (by omega) (by omega) (by omega)
        refine ⟨fun c30 => ?_, fun c30 => ?_⟩
        · have f172 : r26.toInt = (-1) := i_eq (a := r26.toInt) (b := (-1)) rfl rfl c30
          exact j_49  
        · have f173 : r26.toInt ≠ (-1) := i_ne (a := r26.toInt) (b := (-1)) rfl rfl c30
          refine ok_X12_signAt (by omega) (by omega) (by omega) (rp_mono b0 (by omega) (by omega)) (fun r35 f174 f175 f176 f177 f178 f179 => ?_)
          refine ⟨fun c40 => ?_, fun c40 => ?_⟩
          · have f180 : r35.toInt = 41 := i_eq (a := r35.toInt) (b := 41) rfl rfl c40
            exact j_49  
          · have f181 : r35.toInt ≠ 41 := i_ne (a := r35.toInt) (b := 41) rfl rfl c40
            intro x43 ex43
            have f182 : x43.toInt = l2_24.toInt + 1 := i_add (a := l2_24.toInt) (b := 1) ex43 rfl rfl (by omega) (by omega)
            exact ih_24 x43 (by omega) (by omega) (by have h8_0 := i_rng l2_24; have h8_1 := i_rng x43; omega)
    exact ⟨((-1) * x22.toInt + 2147483648).toNat + 1, j_24   (((-1) * x22.toInt + 2147483648).toNat + 1) x22 (by omega) (by omega) (by omega)⟩
