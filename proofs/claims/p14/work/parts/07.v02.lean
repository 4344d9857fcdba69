set_option maxHeartbeats 4000000 in
theorem ok_X12_escaped {v_taped : Int32} {v_newNodes : Int32} {v_newParts : Int32} {v_fault : Int32} {v_faultAt : Int32} {v_at : Int32} {v_newCaptures : Int32} {v_tape : Nat → Int32} {v_newSort : Nat → Int32} {v_newValue : Nat → Int32} {v_newLeast : Nat → Int32} {v_newMost : Nat → Int32} {v_newFirst : Nat → Int32} {v_newNext : Nat → Int32} {v_newMany : Nat → Int32} {v_newPart : Nat → Int32} {v_newBegin : Nat → Int32} {v_newEnd : Nat → Int32} {v_newNames : Nat → Int32} {v_rowFirst : Nat → Int32} {v_rowLast : Nat → Int32} {v_rowMany : Nat → Int32} {v_rowsFirst : Nat → Int32} {v_rowsLast : Nat → Int32} {v_rowsMany : Nat → Int32} {v_groupSort : Nat → Int32} {v_groupValue : Nat → Int32} {v_depth : Int32} {gi9 : Int} {Q : Int32 → Int32 → Int32 → Int32 → Int32 → Int32 → (Nat → Int32) → (Nat → Int32) → (Nat → Int32) → (Nat → Int32) → (Nat → Int32) → (Nat → Int32) → (Nat → Int32) → (Nat → Int32) → (Nat → Int32) → (Nat → Int32) → Prop} (a0 : 0 ≤ v_taped.toInt) (a1 : v_taped.toInt ≤ 200) (a2 : 0 ≤ v_fault.toInt) (a3 : 0 ≤ v_at.toInt) (a4 : v_at.toInt ≤ 900) (a5 : 0 ≤ v_newNodes.toInt) (a6 : v_newNodes.toInt ≤ 259) (a7 : 0 ≤ v_newParts.toInt) (a8 : v_newParts.toInt ≤ 416) (a9 : 0 ≤ v_newCaptures.toInt) (a10 : v_newCaptures.toInt ≤ 9) (b0 : rp (fun k v => 32 ≤ v ∧ v ≤ 126) v_tape 0 v_taped.toInt) (u0 : zRS v_fault.toInt v_newSort v_newValue v_newLeast v_newMost v_newFirst v_newNext v_newMany v_newPart v_newBegin v_newEnd v_rowFirst v_rowLast v_rowMany v_rowsFirst v_rowsLast v_rowsMany v_groupSort v_groupValue v_depth.toInt v_newNodes.toInt v_newParts.toInt v_newCaptures.toInt gi9 v_at.toInt (16 * v_at.toInt)) (hq : ∀ (r : Int32) (ov_newNodes : Int32) (ov_newParts : Int32) (ov_fault : Int32) (ov_faultAt : Int32) (ov_at : Int32) (ov_newSort : Nat → Int32) (ov_newValue : Nat → Int32) (ov_newLeast : Nat → Int32) (ov_newMost : Nat → Int32) (ov_newFirst : Nat → Int32) (ov_newNext : Nat → Int32) (ov_newMany : Nat → Int32) (ov_newPart : Nat → Int32) (ov_newBegin : Nat → Int32) (ov_newEnd : Nat → Int32), r.toInt = v_newNodes.toInt → ov_newNodes.toInt = v_newNodes.toInt + 1 → v_newParts.toInt ≤ ov_newParts.toInt → v_fault.toInt ≤ ov_fault.toInt → v_at.toInt ≤ ov_at.toInt → v_at.toInt + 2 ≤ ov_at.toInt → ov_at.toInt ≤ v_at.toInt + 6 → ov_newParts.toInt ≤ 420 → ((1 ≤ ov_fault.toInt) ∨ (ov_at.toInt ≤ v_taped.toInt)) → ov_newParts.toInt ≤ v_newParts.toInt + 4 → (zRP ov_fault.toInt ov_newSort ov_newValue ov_newLeast ov_newMost ov_newFirst ov_newNext ov_newMany ov_newPart ov_newBegin ov_newEnd v_rowFirst v_rowLast v_rowMany v_rowsFirst v_rowsLast v_rowsMany v_groupSort v_groupValue v_depth.toInt r.toInt ov_newNodes.toInt ov_newParts.toInt v_newCaptures.toInt gi9 ov_at.toInt (16 * ov_at.toInt)) → Q r ov_newNodes ov_newParts ov_fault ov_faultAt ov_at ov_newSort ov_newValue ov_newLeast ov_newMost ov_newFirst ov_newNext ov_newMany ov_newPart ov_newBegin ov_newEnd) : w_X12_escaped v_taped v_newNodes v_newParts v_fault v_faultAt v_at v_newCaptures v_tape v_newSort v_newValue v_newLeast v_newMost v_newFirst v_newNext v_newMany v_newPart v_newBegin v_newEnd v_newNames Q := by
  have q_t : (bz true).toInt = 1 := rfl
  have q_f : (bz false).toInt = 0 := rfl
  have q_0 : (0 : Int32).toInt = 0 := rfl
  have q_1 : (1 : Int32).toInt = 1 := rfl
  have q_2 : (2 : Int32).toInt = 2 := rfl
  have q_3 : (3 : Int32).toInt = 3 := rfl
  have q_4 : (4 : Int32).toInt = 4 := rfl
  have q_48 : (48 : Int32).toInt = 48 := rfl
  have q_49 : (49 : Int32).toInt = 49 := rfl
  have q_57 : (57 : Int32).toInt = 57 := rfl
  have q_65 : (65 : Int32).toInt = 65 := rfl
  have q_90 : (90 : Int32).toInt = 90 := rfl
  have q_95 : (95 : Int32).toInt = 95 := rfl
  have q_97 : (97 : Int32).toInt = 97 := rfl
  have q_122 : (122 : Int32).toInt = 122 := rfl
  unfold w_X12_escaped
  intro x6 ex6
  have f1 : x6.toInt = v_at.toInt + 1 := i_add (a := v_at.toInt) (b := 1) ex6 rfl rfl (by omega) (by omega)
  refine ok_X12_signAt (by omega) (by omega) (by omega) (rp_mono b0 (by omega) (by omega)) (fun r7 f2 f3 f4 f5 f6 f7 => ?_)
  intro x21 ex21
  have f8 : x21.toInt = v_at.toInt + 1 := i_add (a := v_at.toInt) (b := 1) ex21 rfl rfl (by omega) (by omega)
  intro x29 ex29
  have f9 : x29.toInt = v_at.toInt + 2 := i_add (a := v_at.toInt) (b := 2) ex29 rfl rfl (by omega) (by omega)
  have j_45 : ((1 ≤ v_fault.toInt) ∨ (x29.toInt ≤ v_taped.toInt)) → x29.toInt ≤ 900 → x29.toInt ≤ v_taped.toInt → ((r7.toInt = 98) ∨ (r7.toInt = 66)) → w_X12_escaped_45 Q r7 v_newNodes v_newParts v_fault v_faultAt x29 v_newSort v_newValue v_newLeast v_newMost v_newFirst v_newNext v_newMany v_newPart v_newBegin v_newEnd := by
    intro f10 f11 f12 f13
    unfold w_X12_escaped_45
    have j_58 : ∀ (s0_58 : Int32), s0_58.toInt ≤ v_at.toInt + 3 → ((s0_58.toInt = 3) ∨ (s0_58.toInt = 2 ∧ r7.toInt = 98)) → w_X12_escaped_58 Q s0_58 3 v_newNodes v_newParts v_fault v_faultAt x29 v_newSort v_newValue v_newLeast v_newMost v_newFirst v_newNext v_newMany v_newPart v_newBegin v_newEnd := by
      intro s0_58 f14 f15
      unfold w_X12_escaped_58
      refine ok_X12_made (by omega) (by omega) (fun r58 r58_0 r58_1 r58_2 r58_3 r58_4 r58_5 r58_6 r58_7 r58_8 f16 f17 u58_0 => ?_)
      exact hq r58 r58_0 v_newParts v_fault v_faultAt x29 r58_1 r58_2 r58_3 r58_4 r58_5 r58_6 r58_7 r58_8 v_newBegin v_newEnd (by omega) (by omega) (by omega) (by omega) (by omega) (by omega) (by omega) (by omega) (by omega) (by omega) (by exact zRP_leaf u0 (by assumption) (by omega) (by omega) (by omega) (by omega) (by omega) (by omega) (by omega) (by omega))
    refine ⟨fun c50 => ?_, fun c50 => ?_⟩
    · have f18 : r7.toInt ≠ 98 := i_ne (a := r7.toInt) (b := 98) rfl rfl c50
      exact j_58 3 (by omega) (by omega)
    · have f19 : r7.toInt = 98 := i_eq (a := r7.toInt) (b := 98) rfl rfl c50
      exact j_58 2 (by omega) (by omega)
  refine ⟨fun c36 => ?_, fun c36 => ?_⟩
  · have f20 : r7.toInt = 98 := i_eq (a := r7.toInt) (b := 98) rfl rfl c36
    exact j_45  (by omega) (by omega) (by omega) (by omega)
  · have f21 : r7.toInt ≠ 98 := i_ne (a := r7.toInt) (b := 98) rfl rfl c36
    refine ⟨fun c42 => ?_, fun c42 => ?_⟩
    · have f22 : r7.toInt ≠ 66 := i_ne (a := r7.toInt) (b := 66) rfl rfl c42
      have j_74 : ((1 ≤ v_fault.toInt) ∨ (x29.toInt ≤ v_taped.toInt)) → x29.toInt ≤ 900 → x29.toInt ≤ v_taped.toInt → ((r7.toInt = 100) ∨ (r7.toInt = 119)) → w_X12_escaped_74 Q r7 v_newParts v_newNodes v_newParts v_fault v_faultAt x29 v_newSort v_newValue v_newLeast v_newMost v_newFirst v_newNext v_newMany v_newPart v_newBegin v_newEnd := by
        intro f23 f24 f25 f26
        unfold w_X12_escaped_74
        have hp0 := zRS_ps u0
        refine ok_X12_addPart (by omega) (by omega) (fun r79_0 r79_1 r79_2 f27 u79_0 u79_1 => ?_)
        have hp1 : zPs v_fault.toInt r79_1 r79_2 r79_0.toInt _ := zPs_ad hp0 u79_0 u79_1 (by omega) (by decide) (by omega)
        have hb1 : zPb v_newBegin v_newEnd r79_1 r79_2 v_newParts.toInt := zPb_w (zPb_rf (B := v_newBegin) (E := v_newEnd)) u79_0 u79_1 (by omega) (by omega)
        have j_112 : ∀ (v_newParts_112 : Int32) (v_newBegin_112 : Nat → Int32) (v_newEnd_112 : Nat → Int32), v_newParts.toInt ≤ v_newParts_112.toInt → v_newParts_112.toInt ≤ v_newParts.toInt + 4 → ((v_newParts_112.toInt = r79_0.toInt) ∨ (r7.toInt = 119 ∧ v_newParts_112.toInt = r79_0.toInt + 3)) → (zPs v_fault.toInt v_newBegin_112 v_newEnd_112 v_newParts_112.toInt (zsm (zhp v_newBegin v_newEnd) v_newParts.toInt.toNat)) → (zPb v_newBegin v_newEnd v_newBegin_112 v_newEnd_112 v_newParts.toInt) → w_X12_escaped_112 Q v_newParts v_newNodes v_newParts_112 v_fault v_faultAt x29 v_newSort v_newValue v_newLeast v_newMost v_newFirst v_newNext v_newMany v_newPart v_newBegin_112 v_newEnd_112 := by
          intro v_newParts_112 v_newBegin_112 v_newEnd_112 f28 f29 f30 u112_0 u112_1
          unfold w_X12_escaped_112
          refine ok_X12_setNode (v_fault := v_fault) (gh9 := _) (by omega) (by omega) (by omega) (by omega) (by omega) (by omega) (by omega) (by omega) (by first | assumption | omega) (fun r115 r115_0 r115_1 r115_2 r115_3 r115_4 r115_5 r115_6 r115_7 r115_8 r115_9 r115_10 r115_11 f31 f32 f33 f34 f35 f36 f37 f38 u115_0 u115_1 u115_2 => ?_)
          exact hq r115 r115_0 r115_1 v_fault v_faultAt x29 r115_2 r115_3 r115_4 r115_5 r115_6 r115_7 r115_8 r115_9 r115_10 r115_11 (by omega) (by omega) (by omega) (by omega) (by omega) (by omega) (by omega) (by omega) (by omega) (by omega) (by obtain ⟨w9, hw9, hn9⟩ := u115_1; exact zRP_set u0 u115_0 (zPb_tr u112_1 u115_2 (by omega)) hn9 hw9 (by omega) (by omega) (by omega) (by omega) (by omega) (Or.inr (by omega)) (by omega) (Or.inr (by omega)))
        refine ⟨fun c85 => ?_, fun c85 => ?_⟩
        · have f39 : r7.toInt ≠ 119 := i_ne (a := r7.toInt) (b := 119) rfl rfl c85
          exact j_112 r79_0 r79_1 r79_2 (by omega) (by omega) (by omega) (by first | assumption | exact zPs_ad hp3 u109_0 u109_1 (by omega) (by decide) (by omega)) (by first | assumption | exact zPb_w hb3 u109_0 u109_1 (by omega) (by omega))
        · have f40 : r7.toInt = 119 := i_eq (a := r7.toInt) (b := 119) rfl rfl c85
          refine ok_X12_addPart (by omega) (by omega) (fun r93_0 r93_1 r93_2 f41 u93_0 u93_1 => ?_)
          have hp2 : zPs v_fault.toInt r93_1 r93_2 r93_0.toInt _ := zPs_ad hp1 u93_0 u93_1 (by omega) (by decide) (by omega)
          have hb2 : zPb v_newBegin v_newEnd r93_1 r93_2 v_newParts.toInt := zPb_w hb1 u93_0 u93_1 (by omega) (by omega)
          refine ok_X12_addPart (by omega) (by omega) (fun r101_0 r101_1 r101_2 f42 u101_0 u101_1 => ?_)
          have hp3 : zPs v_fault.toInt r101_1 r101_2 r101_0.toInt _ := zPs_ad hp2 u101_0 u101_1 (by omega) (by decide) (by omega)
          have hb3 : zPb v_newBegin v_newEnd r101_1 r101_2 v_newParts.toInt := zPb_w hb2 u101_0 u101_1 (by omega) (by omega)
          refine ok_X12_addPart (by omega) (by omega) (fun r109_0 r109_1 r109_2 f43 u109_0 u109_1 => ?_)
          exact j_112 r109_0 r109_1 r109_2 (by omega) (by omega) (by omega) (by first | assumption | exact zPs_ad hp3 u109_0 u109_1 (by omega) (by decide) (by omega)) (by first | assumption | exact zPb_w hb3 u109_0 u109_1 (by omega) (by omega))
      refine ⟨fun c65 => ?_, fun c65 => ?_⟩
      · have f44 : r7.toInt = 100 := i_eq (a := r7.toInt) (b := 100) rfl rfl c65
        exact j_74  (by omega) (by omega) (by omega) (by omega)
      · have f45 : r7.toInt ≠ 100 := i_ne (a := r7.toInt) (b := 100) rfl rfl c65
        refine ⟨fun c71 => ?_, fun c71 => ?_⟩
        · have f46 : r7.toInt ≠ 119 := i_ne (a := r7.toInt) (b := 119) rfl rfl c71
          refine ok_X12_in  (fun r124 f47 f48 f49 f50 f51 f52 => ?_)
          refine ⟨fun c127 => ?_, fun c127 => ?_⟩
          · have f53 : r124.toInt = 0 := i_eq (a := r124.toInt) (b := 0) rfl rfl c127
            refine ⟨fun c160 => ?_, fun c160 => ?_⟩
            · have f54 : r7.toInt ≠ 64 := i_ne (a := r7.toInt) (b := 64) rfl rfl c160
              refine ⟨fun c237 => ?_, fun c237 => ?_⟩
              · have f55 : r7.toInt ≠ 120 := i_ne (a := r7.toInt) (b := 120) rfl rfl c237
                have j_293 : ∀ (v_fault_293 : Int32) (v_faultAt_293 : Int32), v_fault.toInt ≤ v_fault_293.toInt → ((1 ≤ v_fault_293.toInt) ∨ (x29.toInt ≤ v_taped.toInt)) → ((v_fault_293.toInt = v_fault.toInt ∧ v_faultAt_293.toInt = v_faultAt.toInt) ∨ (v_fault.toInt ≤ v_fault_293.toInt ∧ 1 ≤ v_fault_293.toInt)) → w_X12_escaped_293 Q r7 v_newNodes v_newParts v_fault_293 v_faultAt_293 x29 v_newSort v_newValue v_newLeast v_newMost v_newFirst v_newNext v_newMany v_newPart v_newBegin v_newEnd := by
                  intro v_fault_293 v_faultAt_293 f56 f57 f58
                  unfold w_X12_escaped_293
                  refine ok_X12_made (by omega) (by omega) (fun r296 r296_0 r296_1 r296_2 r296_3 r296_4 r296_5 r296_6 r296_7 r296_8 f59 f60 u296_0 => ?_)
                  exact hq r296 r296_0 v_newParts v_fault_293 v_faultAt_293 x29 r296_1 r296_2 r296_3 r296_4 r296_5 r296_6 r296_7 r296_8 v_newBegin v_newEnd (by omega) (by omega) (by omega) (by omega) (by omega) (by omega) (by omega) (by omega) (by omega) (by omega) (by exact zRP_leaf u0 (by assumption) (by omega) (by omega) (by omega) (by omega) (by omega) (by omega) (by omega) (by omega))
                have j_287 : w_X12_escaped_287 Q r7 x21 v_newNodes v_newParts v_fault v_faultAt x29 v_newSort v_newValue v_newLeast v_newMost v_newFirst v_newNext v_newMany v_newPart v_newBegin v_newEnd := by
                  unfold w_X12_escaped_287
                  refine ok_X12_fail (by omega) (by omega) (by omega) (fun r290_0 r290_1 f61 f62 f63 => ?_)
                  exact j_293 r290_0 r290_1 (by omega) (by omega) (by omega)
                refine ⟨fun c270 => ?_, fun c270 => ?_⟩
                · have f64 : r7.toInt = (-1) := i_eq (a := r7.toInt) (b := (-1)) rfl rfl c270
                  exact j_287  
                · have f65 : r7.toInt ≠ (-1) := i_ne (a := r7.toInt) (b := (-1)) rfl rfl c270
                  refine ok_X12_isLetter  (fun r274 f66 f67 f68 f69 => ?_)
                  refine ⟨fun c277 => ?_, fun c277 => ?_⟩
                  · have f70 : r274.toInt ≠ 0 := i_ne (a := r274.toInt) (b := 0) rfl rfl c277
                    exact j_287  
                  · have f71 : r274.toInt = 0 := i_eq (a := r274.toInt) (b := 0) rfl rfl c277
                    refine ok_X12_isDigit  (fun r281 f72 f73 f74 f75 f76 f77 => ?_)
                    refine ⟨fun c284 => ?_, fun c284 => ?_⟩
                    · have f78 : r281.toInt = 0 := i_eq (a := r281.toInt) (b := 0) rfl rfl c284
                      exact j_293 v_fault v_faultAt (by omega) (by omega) (by omega)
                    · have f79 : r281.toInt ≠ 0 := i_ne (a := r281.toInt) (b := 0) rfl rfl c284
                      exact j_287  
              · have f80 : r7.toInt = 120 := i_eq (a := r7.toInt) (b := 120) rfl rfl c237
                refine ok_X12_hexes (by omega) (by omega) (by omega) (by omega) (by omega) (by omega) (rp_mono b0 (by omega) (by omega)) (fun r245 r245_0 r245_1 f81 f82 f83 f84 f85 u245_0 => ?_)
                intro x256 ex256
                have f86 : x256.toInt = x29.toInt + 4 := i_add (a := x29.toInt) (b := 4) ex256 rfl rfl (by omega) (by omega)
                refine ok_X12_made (by omega) (by omega) (fun r264 r264_0 r264_1 r264_2 r264_3 r264_4 r264_5 r264_6 r264_7 r264_8 f87 f88 u264_0 => ?_)
                exact hq r264 r264_0 v_newParts r245_0 r245_1 x256 r264_1 r264_2 r264_3 r264_4 r264_5 r264_6 r264_7 r264_8 v_newBegin v_newEnd (by omega) (by omega) (by omega) (by omega) (by omega) (by omega) (by omega) (by omega) (by omega) (by omega) (by exact zRP_leaf u0 (by assumption) (by omega) (by omega) (by omega) (by omega) (by omega) (by omega) (by omega) (by omega))
            · have f89 : r7.toInt = 64 := i_eq (a := r7.toInt) (b := 64) rfl rfl c160
              refine ok_X12_signAt (by omega) (by omega) (by omega) (rp_mono b0 (by omega) (by omega)) (fun r168 f90 f91 f92 f93 f94 f95 => ?_)
              refine ok_X12_in  (fun r179 f96 f97 f98 f99 f100 f101 => ?_)
              have j_194 : ∀ (v_fault_194 : Int32) (v_faultAt_194 : Int32), v_fault.toInt ≤ v_fault_194.toInt → ((1 ≤ v_fault_194.toInt) ∨ (x29.toInt + 1 ≤ v_taped.toInt)) → ((v_fault_194.toInt = v_fault.toInt ∧ v_faultAt_194.toInt = v_faultAt.toInt) ∨ (r179.toInt = 0 ∧ v_fault.toInt ≤ v_fault_194.toInt ∧ 1 ≤ v_fault_194.toInt)) → w_X12_escaped_194 v_newCaptures v_newNames Q r168 v_newNodes v_newParts v_fault_194 v_faultAt_194 x29 v_newSort v_newValue v_newLeast v_newMost v_newFirst v_newNext v_newMany v_newPart v_newBegin v_newEnd := by
                intro v_fault_194 v_faultAt_194 f102 f103 f104
                unfold w_X12_escaped_194
                refine ok_X12_captureOf (by omega) (by omega) (fun r197 f105 f106 f107 f108 f109 f110 => ?_)
                have j_216 : ∀ (v_fault_216 : Int32) (v_faultAt_216 : Int32), v_fault.toInt ≤ v_fault_216.toInt → ((1 ≤ v_fault_216.toInt) ∨ (x29.toInt + 1 ≤ v_taped.toInt)) → ((1 ≤ v_fault_216.toInt) ∨ (1 ≤ r197.toInt)) → ((v_fault_216.toInt = v_fault_194.toInt ∧ v_faultAt_216.toInt = v_faultAt_194.toInt) ∨ (r197.toInt = 0 ∧ v_fault_194.toInt ≤ v_fault_216.toInt ∧ 1 ≤ v_fault_216.toInt)) → w_X12_escaped_216 Q r197 v_newNodes v_newParts v_fault_216 v_faultAt_216 x29 v_newSort v_newValue v_newLeast v_newMost v_newFirst v_newNext v_newMany v_newPart v_newBegin v_newEnd := by
                  intro v_fault_216 v_faultAt_216 f111 f112 f113 f114
                  unfold w_X12_escaped_216
                  intro x222 ex222
                  have f115 : x222.toInt = x29.toInt + 1 := i_add (a := x29.toInt) (b := 1) ex222 rfl rfl (by omega) (by omega)
                  refine ok_X12_made (by omega) (by omega) (fun r230 r230_0 r230_1 r230_2 r230_3 r230_4 r230_5 r230_6 r230_7 r230_8 f116 f117 u230_0 => ?_)
                  exact hq r230 r230_0 v_newParts v_fault_216 v_faultAt_216 x222 r230_1 r230_2 r230_3 r230_4 r230_5 r230_6 r230_7 r230_8 v_newBegin v_newEnd (by omega) (by omega) (by omega) (by omega) (by omega) (by omega) (by omega) (by omega) (by omega) (by omega) (by exact zRP_leaf u0 (by assumption) (by omega) (by omega) (by omega) (by omega) (by omega) (by omega) (by omega) (by omega))
                refine ⟨fun c204 => ?_, fun c204 => ?_⟩
                · have f118 : r197.toInt ≠ 0 := i_ne (a := r197.toInt) (b := 0) rfl rfl c204
                  exact j_216 v_fault_194 v_faultAt_194 (by omega) (by omega) (by omega) (by omega)
                · have f119 : r197.toInt = 0 := i_eq (a := r197.toInt) (b := 0) rfl rfl c204
                  refine ok_X12_fail (by omega) (by omega) (by omega) (fun r213_0 r213_1 f120 f121 f122 => ?_)
                  exact j_216 r213_0 r213_1 (by omega) (by omega) (by omega) (by omega)
              refine ⟨fun c182 => ?_, fun c182 => ?_⟩
              · have f123 : r179.toInt ≠ 0 := i_ne (a := r179.toInt) (b := 0) rfl rfl c182
                exact j_194 v_fault v_faultAt (by omega) (by omega) (by omega)
              · have f124 : r179.toInt = 0 := i_eq (a := r179.toInt) (b := 0) rfl rfl c182
                refine ok_X12_fail (by omega) (by omega) (by omega) (fun r191_0 r191_1 f125 f126 f127 => ?_)
                exact j_194 r191_0 r191_1 (by omega) (by omega) (by omega)
          · have f128 : r124.toInt ≠ 0 := i_ne (a := r124.toInt) (b := 0) rfl rfl c127
            intro x133 ex133
            have f129 : x133.toInt = r7.toInt - 48 := i_sub (a := r7.toInt) (b := 48) ex133 rfl rfl (by omega) (by omega)
            have j_147 : ∀ (v_fault_147 : Int32) (v_faultAt_147 : Int32), v_fault.toInt ≤ v_fault_147.toInt → ((v_fault_147.toInt = v_fault.toInt ∧ v_faultAt_147.toInt = v_faultAt.toInt ∧ x133.toInt ≤ v_newCaptures.toInt) ∨ (v_newCaptures.toInt + 1 ≤ x133.toInt ∧ v_fault.toInt ≤ v_fault_147.toInt ∧ 1 ≤ v_fault_147.toInt)) → w_X12_escaped_147 Q r7 v_newNodes v_newParts v_fault_147 v_faultAt_147 x29 v_newSort v_newValue v_newLeast v_newMost v_newFirst v_newNext v_newMany v_newPart v_newBegin v_newEnd := by
              intro v_fault_147 v_faultAt_147 f130 f131
              unfold w_X12_escaped_147
              intro x152 ex152
              have f132 : x152.toInt = r7.toInt - 48 := i_sub (a := r7.toInt) (b := 48) ex152 rfl rfl (by omega) (by omega)
              refine ok_X12_made (by omega) (by omega) (fun r153 r153_0 r153_1 r153_2 r153_3 r153_4 r153_5 r153_6 r153_7 r153_8 f133 f134 u153_0 => ?_)
              exact hq r153 r153_0 v_newParts v_fault_147 v_faultAt_147 x29 r153_1 r153_2 r153_3 r153_4 r153_5 r153_6 r153_7 r153_8 v_newBegin v_newEnd (by omega) (by omega) (by omega) (by omega) (by omega) (by omega) (by omega) (by omega) (by omega) (by omega) (by exact zRP_leaf u0 (by assumption) (by omega) (by omega) (by omega) (by omega) (by omega) (by omega) (by omega) (by omega))
            refine ⟨fun c138 => ?_, fun c138 => ?_⟩
            · have f135 : x133.toInt ≤ v_newCaptures.toInt := i_le (a := x133.toInt) (b := v_newCaptures.toInt) rfl rfl c138
              exact j_147 v_fault v_faultAt (by omega) (by omega)
            · have f136 : v_newCaptures.toInt < x133.toInt := i_nle (a := x133.toInt) (b := v_newCaptures.toInt) rfl rfl c138
              refine ok_X12_fail (by omega) (by omega) (by omega) (fun r144_0 r144_1 f137 f138 f139 => ?_)
              exact j_147 r144_0 r144_1 (by omega) (by omega)
        · have f140 : r7.toInt = 119 := i_eq (a := r7.toInt) (b := 119) rfl rfl c71
          exact j_74  (by omega) (by omega) (by omega) (by omega)
    · have f141 : r7.toInt = 66 := i_eq (a := r7.toInt) (b := 66) rfl rfl c42
      exact j_45  (by omega) (by omega) (by omega) (by omega)
