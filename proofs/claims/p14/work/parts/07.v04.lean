set_option maxHeartbeats 4000000 in
theorem ok_X12_openGroup {v_taped : Int32} {v_fault : Int32} {v_faultAt : Int32} {v_at : Int32} {v_items : Int32} {v_newCaptures : Int32} {v_depth : Int32} {v_tape : Nat → Int32} {v_newNames : Nat → Int32} {v_groupSort : Nat → Int32} {v_groupValue : Nat → Int32} {v_rowFirst : Nat → Int32} {v_rowLast : Nat → Int32} {v_rowMany : Nat → Int32} {v_rowsFirst : Nat → Int32} {v_rowsLast : Nat → Int32} {v_rowsMany : Nat → Int32} {v_newSort : Nat → Int32} {v_newValue : Nat → Int32} {v_newLeast : Nat → Int32} {v_newMost : Nat → Int32} {v_newFirst : Nat → Int32} {v_newNext : Nat → Int32} {v_newMany : Nat → Int32} {v_newPart : Nat → Int32} {v_newBegin : Nat → Int32} {v_newEnd : Nat → Int32} {v_newNodes : Int32} {v_newParts : Int32} {Q : Int32 → Int32 → Int32 → Int32 → Int32 → Int32 → (Nat → Int32) → (Nat → Int32) → (Nat → Int32) → (Nat → Int32) → (Nat → Int32) → (Nat → Int32) → (Nat → Int32) → (Nat → Int32) → (Nat → Int32) → Prop} (a0 : 0 ≤ v_taped.toInt) (a1 : v_taped.toInt ≤ 200) (a2 : 0 ≤ v_at.toInt) (a3 : v_at.toInt + 1 ≤ v_taped.toInt) (a4 : 0 ≤ v_depth.toInt) (a5 : v_depth.toInt ≤ 9) (a6 : 0 ≤ v_newCaptures.toInt) (a7 : v_newCaptures.toInt ≤ 9) (a8 : 0 ≤ v_items.toInt) (a9 : v_items.toInt ≤ 100) (a10 : 0 ≤ v_fault.toInt) (b0 : rp (fun k v => 32 ≤ v ∧ v ≤ 126) v_tape 0 v_taped.toInt) (b1 : qp2 (fun k m l => (m = 0) ∨ (0 ≤ l ∧ l ≤ 259)) v_rowMany v_rowFirst 0 12) (b2 : qp2 (fun k m l => (m = 0) ∨ (0 ≤ l ∧ l ≤ 259)) v_rowsMany v_rowsFirst 0 12) (b3 : qp2 (fun k m l => (m = 0) ∨ (0 ≤ l ∧ l ≤ 259)) v_rowMany v_rowLast 0 12) (b4 : qp2 (fun k m l => (m = 0) ∨ (0 ≤ l ∧ l ≤ 259)) v_rowsMany v_rowsLast 0 12) (b5 : rp (fun k v => -1 ≤ v ∧ v ≤ 259) v_rowFirst 0 12) (b6 : rp (fun k v => -1 ≤ v ∧ v ≤ 259) v_rowLast 0 12) (b7 : rp (fun k v => -1 ≤ v ∧ v ≤ 259) v_rowsFirst 0 12) (b8 : rp (fun k v => -1 ≤ v ∧ v ≤ 259) v_rowsLast 0 12) (u0 : zRS v_fault.toInt v_newSort v_newValue v_newLeast v_newMost v_newFirst v_newNext v_newMany v_newPart v_newBegin v_newEnd v_rowFirst v_rowLast v_rowMany v_rowsFirst v_rowsLast v_rowsMany v_groupSort v_groupValue v_depth.toInt v_newNodes.toInt v_newParts.toInt v_newCaptures.toInt v_items.toInt v_at.toInt (16 * v_at.toInt)) (hq : ∀ (ov_fault : Int32) (ov_faultAt : Int32) (ov_at : Int32) (ov_items : Int32) (ov_newCaptures : Int32) (ov_depth : Int32) (ov_newNames : Nat → Int32) (ov_groupSort : Nat → Int32) (ov_groupValue : Nat → Int32) (ov_rowFirst : Nat → Int32) (ov_rowLast : Nat → Int32) (ov_rowMany : Nat → Int32) (ov_rowsFirst : Nat → Int32) (ov_rowsLast : Nat → Int32) (ov_rowsMany : Nat → Int32), v_fault.toInt ≤ ov_fault.toInt → v_at.toInt ≤ ov_at.toInt → v_items.toInt ≤ ov_items.toInt → v_newCaptures.toInt ≤ ov_newCaptures.toInt → ov_newCaptures.toInt ≤ v_at.toInt + 9 → v_depth.toInt ≤ ov_depth.toInt → ov_depth.toInt ≤ v_at.toInt + 9 → ov_at.toInt ≤ 201 → ov_items.toInt ≤ 101 → ov_newCaptures.toInt ≤ 9 → ov_depth.toInt ≤ 9 → ((1 ≤ ov_fault.toInt) ∨ (ov_at.toInt ≤ v_taped.toInt)) → ((v_at.toInt + 1 ≤ ov_at.toInt) ∨ (1 ≤ ov_fault.toInt)) → 2 * ov_depth.toInt + v_at.toInt + v_newCaptures.toInt ≤ ov_at.toInt + ov_newCaptures.toInt + 2 * v_depth.toInt → ov_items.toInt ≤ v_items.toInt + 1 → ((1 ≤ ov_fault.toInt) ∨ (ov_items.toInt ≤ 100)) → qp2 (fun k m l => (m = 0) ∨ (0 ≤ l ∧ l ≤ 259)) ov_rowMany ov_rowFirst 0 12 → qp2 (fun k m l => (m = 0) ∨ (0 ≤ l ∧ l ≤ 259)) ov_rowsMany ov_rowsFirst 0 12 → qp2 (fun k m l => (m = 0) ∨ (0 ≤ l ∧ l ≤ 259)) ov_rowMany ov_rowLast 0 12 → qp2 (fun k m l => (m = 0) ∨ (0 ≤ l ∧ l ≤ 259)) ov_rowsMany ov_rowsLast 0 12 → rp (fun k v => -1 ≤ v ∧ v ≤ 259) ov_rowFirst 0 12 → rp (fun k v => -1 ≤ v ∧ v ≤ 259) ov_rowLast 0 12 → rp (fun k v => -1 ≤ v ∧ v ≤ 259) ov_rowsFirst 0 12 → rp (fun k v => -1 ≤ v ∧ v ≤ 259) ov_rowsLast 0 12 → qp2 (fun k m l => (m = 0) ∨ (0 ≤ l ∧ l ≤ 259)) ov_rowsMany v_rowsFirst 0 12 → qp2 (fun k m l => (m = 0) ∨ (0 ≤ l ∧ l ≤ 259)) ov_rowsMany v_rowsLast 0 12 → qp2 (fun k m l => (m = 0) ∨ (0 ≤ l ∧ l ≤ 259)) ov_rowMany v_rowFirst 0 12 → qp2 (fun k m l => (m = 0) ∨ (0 ≤ l ∧ l ≤ 259)) ov_rowMany v_rowLast 0 12 → (zRS ov_fault.toInt v_newSort v_newValue v_newLeast v_newMost v_newFirst v_newNext v_newMany v_newPart v_newBegin v_newEnd ov_rowFirst ov_rowLast ov_rowMany ov_rowsFirst ov_rowsLast ov_rowsMany ov_groupSort ov_groupValue ov_depth.toInt v_newNodes.toInt v_newParts.toInt ov_newCaptures.toInt ov_items.toInt ov_at.toInt (16 * ov_at.toInt)) → Q ov_fault ov_faultAt ov_at ov_items ov_newCaptures ov_depth ov_newNames ov_groupSort ov_groupValue ov_rowFirst ov_rowLast ov_rowMany ov_rowsFirst ov_rowsLast ov_rowsMany) : w_X12_openGroup v_taped v_fault v_faultAt v_at v_items v_newCaptures v_depth v_tape v_newNames v_groupSort v_groupValue v_rowFirst v_rowLast v_rowMany v_rowsFirst v_rowsLast v_rowsMany Q := by
  have q_t : (bz true).toInt = 1 := rfl
  have q_f : (bz false).toInt = 0 := rfl
  have q_0 : (0 : Int32).toInt = 0 := rfl
  have q_1 : (1 : Int32).toInt = 1 := rfl
  have q_2 : (2 : Int32).toInt = 2 := rfl
  have q_3 : (3 : Int32).toInt = 3 := rfl
  have q_5 : (5 : Int32).toInt = 5 := rfl
  have q_8 : (8 : Int32).toInt = 8 := rfl
  have q_9 : (9 : Int32).toInt = 9 := rfl
  have q_10 : (10 : Int32).toInt = 10 := rfl
  have q_11 : (11 : Int32).toInt = 11 := rfl
  have q_97 : (97 : Int32).toInt = 97 := rfl
  have q_122 : (122 : Int32).toInt = 122 := rfl
  unfold w_X12_openGroup
  intro x6 ex6
  have f1 : x6.toInt = v_at.toInt + 1 := i_add (a := v_at.toInt) (b := 1) ex6 rfl rfl (by omega) (by omega)
  refine ok_X12_signAt (by omega) (by omega) (by omega) (rp_mono b0 (by omega) (by omega)) (fun r7 f2 f3 f4 f5 f6 f7 => ?_)
  refine ⟨fun c14 => ?_, fun c14 => ?_⟩
  · have f8 : r7.toInt ≠ 35 := i_ne (a := r7.toInt) (b := 35) rfl rfl c14
    have j_119 : ∀ (s0_119 : Int32), s0_119.toInt ≤ v_at.toInt + 1 → ((s0_119.toInt = 0) ∨ (v_at.toInt + 2 ≤ v_taped.toInt)) → ((s0_119.toInt = 0) ∨ (s0_119.toInt = 1 ∧ v_at.toInt + 2 ≤ v_taped.toInt)) → w_X12_openGroup_119 v_taped v_tape Q s0_119 r7 v_fault v_faultAt v_at v_items v_newCaptures v_depth v_newNames v_groupSort v_groupValue v_rowFirst v_rowLast v_rowMany v_rowsFirst v_rowsLast v_rowsMany := by
      intro s0_119 f9 f10 f11
      unfold w_X12_openGroup_119
      have j_151 : ∀ (v_fault_151 : Int32) (v_faultAt_151 : Int32), v_fault.toInt ≤ v_fault_151.toInt → ((1 ≤ v_fault_151.toInt) ∨ (v_depth.toInt ≤ 8)) → ((1 ≤ v_fault_151.toInt) ∨ (v_newCaptures.toInt ≤ 8) ∨ (s0_119.toInt = 1)) → ((v_fault_151.toInt = v_fault.toInt ∧ v_faultAt_151.toInt = v_faultAt.toInt ∧ v_depth.toInt ≤ 8) ∨ (v_fault_151.toInt = v_fault.toInt ∧ v_faultAt_151.toInt = v_faultAt.toInt ∧ v_depth.toInt ≤ 8 ∧ s0_119.toInt = 0) ∨ (v_fault.toInt ≤ v_fault_151.toInt ∧ 1 ≤ v_fault_151.toInt)) → w_X12_openGroup_151 v_taped v_tape Q r7 s0_119 v_fault_151 v_faultAt_151 v_at v_items v_newCaptures v_depth v_newNames v_groupSort v_groupValue v_rowFirst v_rowLast v_rowMany v_rowsFirst v_rowsLast v_rowsMany := by
        intro v_fault_151 v_faultAt_151 f12 f13 f14 f15
        unfold w_X12_openGroup_151
        refine ok_X12_countItem (by omega) (by omega) (by omega) (fun r156_0 r156_1 r156_2 f16 f17 f18 f19 => ?_)
        refine ⟨fun c163 => ?_, fun c163 => ?_⟩
        · have f20 : r156_0.toInt ≤ 0 := i_le (a := r156_0.toInt) (b := 0) rfl rfl c163
          intro x173 ex173
          have f21 : x173.toInt = v_depth.toInt + 1 := i_add (a := v_depth.toInt) (b := 1) ex173 rfl rfl (by omega) (by omega)
          refine ⟨fun c178 => ?_, fun c178 => ?_⟩
          · have f22 : s0_119.toInt ≠ 0 := i_ne (a := s0_119.toInt) (b := 0) rfl rfl c178
            have j_335 : ∀ (s0_335 : Int32), s0_335.toInt ≤ v_at.toInt + 11 → 5 ≤ s0_335.toInt → s0_335.toInt ≤ 11 → (s0_335.toInt = 5 ∨ (9 ≤ s0_335.toInt ∧ s0_335.toInt ≤ 11)) → w_X12_openGroup_335 Q s0_335 r7 r156_0 r156_1 v_at r156_2 v_newCaptures x173 v_newNames v_groupSort v_groupValue v_rowFirst v_rowLast v_rowMany v_rowsFirst v_rowsLast v_rowsMany := by
              intro s0_335 f23 f24 f25 u335_0
              unfold w_X12_openGroup_335
              have j_366 : ∀ (s0_366 : Int32), s0_366.toInt ≤ v_at.toInt + 3 → 0 ≤ s0_366.toInt → s0_366.toInt ≤ 3 → w_X12_openGroup_366 Q s0_366 s0_335 r156_0 r156_1 v_at r156_2 v_newCaptures x173 v_newNames v_groupSort v_groupValue v_rowFirst v_rowLast v_rowMany v_rowsFirst v_rowsLast v_rowsMany := by
                intro s0_366 f26 f27 f28
                unfold w_X12_openGroup_366
                refine ok_X12_beginGroup (by omega) (by omega) (qp2_mono b1 (by omega) (by omega)) (qp2_mono b2 (by omega) (by omega)) (qp2_mono b3 (by omega) (by omega)) (qp2_mono b4 (by omega) (by omega)) (rp_mono b5 (by omega) (by omega)) (rp_mono b6 (by omega) (by omega)) (rp_mono b7 (by omega) (by omega)) (rp_mono b8 (by omega) (by omega)) (fun r366_0 r366_1 r366_2 r366_3 r366_4 r366_5 r366_6 r366_7 h29 h30 h31 h32 h33 h34 h35 h36 h37 h38 h39 h40 u366_0 u366_1 u366_2 u366_3 u366_4 u366_5 u366_6 u366_7 => ?_)
                intro x375 ex375
                have f41 : x375.toInt = v_at.toInt + 2 := i_add (a := v_at.toInt) (b := 2) ex375 rfl rfl (by omega) (by omega)
                exact hq r156_0 r156_1 x375 r156_2 v_newCaptures x173 v_newNames r366_0 r366_1 r366_2 r366_3 r366_4 r366_5 r366_6 r366_7 (by omega) (by omega) (by omega) (by omega) (by omega) (by omega) (by omega) (by omega) (by omega) (by omega) (by omega) (by omega) (by omega) (by omega) (by omega) (by omega) (qp2_mono h37 (by omega) (by omega)) (qp2_mono h31 (by omega) (by omega)) (qp2_mono h38 (by omega) (by omega)) (qp2_mono h32 (by omega) (by omega)) (rp_mono h35 (by omega) (by omega)) (rp_mono h36 (by omega) (by omega)) (rp_mono h29 (by omega) (by omega)) (rp_mono h30 (by omega) (by omega)) (qp2_mono h33 (by omega) (by omega)) (qp2_mono h34 (by omega) (by omega)) (qp2_mono h39 (by omega) (by omega)) (qp2_mono h40 (by omega) (by omega)) (by exact zRS_open u0 (by assumption) (by assumption) (by assumption) (by assumption) (by assumption) (by assumption) (by assumption) (by assumption) (by omega) (by omega) (by omega) (by omega) (by omega) (by omega) (by omega))
              refine ⟨fun c338 => ?_, fun c338 => ?_⟩
              · have f42 : r7.toInt ≠ 33 := i_ne (a := r7.toInt) (b := 33) rfl rfl c338
                refine ⟨fun c348 => ?_, fun c348 => ?_⟩
                · have f43 : r7.toInt ≠ 60 := i_ne (a := r7.toInt) (b := 60) rfl rfl c348
                  refine ⟨fun c358 => ?_, fun c358 => ?_⟩
                  · have f44 : r7.toInt ≠ 126 := i_ne (a := r7.toInt) (b := 126) rfl rfl c358
                    exact j_366 0 (by omega) (by omega) (by omega)
                  · have f45 : r7.toInt = 126 := i_eq (a := r7.toInt) (b := 126) rfl rfl c358
                    exact j_366 3 (by omega) (by omega) (by omega)
                · have f46 : r7.toInt = 60 := i_eq (a := r7.toInt) (b := 60) rfl rfl c348
                  exact j_366 2 (by omega) (by omega) (by omega)
              · have f47 : r7.toInt = 33 := i_eq (a := r7.toInt) (b := 33) rfl rfl c338
                exact j_366 1 (by omega) (by omega) (by omega)
            refine ⟨fun c304 => ?_, fun c304 => ?_⟩
            · have f48 : r7.toInt ≠ 58 := i_ne (a := r7.toInt) (b := 58) rfl rfl c304
              refine ⟨fun c314 => ?_, fun c314 => ?_⟩
              · have f49 : r7.toInt ≠ 42 := i_ne (a := r7.toInt) (b := 42) rfl rfl c314
                refine ⟨fun c325 => ?_, fun c325 => ?_⟩
                · have f50 : r7.toInt ≠ 37 := i_ne (a := r7.toInt) (b := 37) rfl rfl c325
                  exact j_335 9 (by omega) (by omega) (by omega) (by omega)
                · have f51 : r7.toInt = 37 := i_eq (a := r7.toInt) (b := 37) rfl rfl c325
                  exact j_335 11 (by omega) (by omega) (by omega) (by omega)
              · have f52 : r7.toInt = 42 := i_eq (a := r7.toInt) (b := 42) rfl rfl c314
                exact j_335 10 (by omega) (by omega) (by omega) (by omega)
            · have f53 : r7.toInt = 58 := i_eq (a := r7.toInt) (b := 58) rfl rfl c304
              exact j_335 5 (by omega) (by omega) (by omega) (by omega)
          · have f54 : s0_119.toInt = 0 := i_eq (a := s0_119.toInt) (b := 0) rfl rfl c178
            intro x187 ex187
            have f55 : x187.toInt = v_newCaptures.toInt + 1 := i_add (a := v_newCaptures.toInt) (b := 1) ex187 rfl rfl (by omega) (by omega)
            refine ⟨i_in (by omega) (by omega), ?_⟩
            intro g200 eg200
            have j_269 : ∀ (v_fault_269 : Int32) (v_faultAt_269 : Int32) (v_newNames_269 : Nat → Int32), v_fault.toInt ≤ v_fault_269.toInt → v_fault_269.toInt ≤ v_at.toInt + 3 → ((1 ≤ v_fault_269.toInt) ∨ (r7.toInt ≠ 64) ∨ (v_at.toInt + 3 ≤ v_taped.toInt)) → ((v_fault_269.toInt = r156_0.toInt ∧ v_faultAt_269.toInt = r156_1.toInt) ∨ (r7.toInt = 64 ∧ v_fault.toInt ≤ v_fault_269.toInt ∧ v_fault_269.toInt ≤ v_at.toInt + 3 ∧ v_fault_269.toInt ≤ 3)) → w_X12_openGroup_269 Q r7 v_fault_269 v_faultAt_269 v_at r156_2 x187 x173 v_newNames_269 v_groupSort v_groupValue v_rowFirst v_rowLast v_rowMany v_rowsFirst v_rowsLast v_rowsMany := by
              intro v_fault_269 v_faultAt_269 v_newNames_269 f56 f57 f58 f59
              unfold w_X12_openGroup_269
              refine ok_X12_beginGroup (by omega) (by omega) (qp2_mono b1 (by omega) (by omega)) (qp2_mono b2 (by omega) (by omega)) (qp2_mono b3 (by omega) (by omega)) (qp2_mono b4 (by omega) (by omega)) (rp_mono b5 (by omega) (by omega)) (rp_mono b6 (by omega) (by omega)) (rp_mono b7 (by omega) (by omega)) (rp_mono b8 (by omega) (by omega)) (fun r276_0 r276_1 r276_2 r276_3 r276_4 r276_5 r276_6 r276_7 h60 h61 h62 h63 h64 h65 h66 h67 h68 h69 h70 h71 u276_0 u276_1 u276_2 u276_3 u276_4 u276_5 u276_6 u276_7 => ?_)
              have j_295 : ∀ (s0_295 : Int32), s0_295.toInt ≤ v_at.toInt + 3 → ((s0_295.toInt = 1) ∨ (s0_295.toInt = 3 ∧ r7.toInt = 64)) → w_X12_openGroup_295 Q s0_295 v_at v_fault_269 v_faultAt_269 v_at r156_2 x187 x173 v_newNames_269 r276_0 r276_1 r276_2 r276_3 r276_4 r276_5 r276_6 r276_7 := by
                intro s0_295 f72 f73
                unfold w_X12_openGroup_295
                intro x295 ex295
                have f74 : x295.toInt = v_at.toInt + s0_295.toInt := i_add (a := v_at.toInt) (b := s0_295.toInt) ex295 rfl rfl (by omega) (by omega)
                exact hq v_fault_269 v_faultAt_269 x295 r156_2 x187 x173 v_newNames_269 r276_0 r276_1 r276_2 r276_3 r276_4 r276_5 r276_6 r276_7 (by omega) (by omega) (by omega) (by omega) (by omega) (by omega) (by omega) (by omega) (by omega) (by omega) (by omega) (by omega) (by omega) (by omega) (by omega) (by omega) (qp2_mono h68 (by omega) (by omega)) (qp2_mono h62 (by omega) (by omega)) (qp2_mono h69 (by omega) (by omega)) (qp2_mono h63 (by omega) (by omega)) (rp_mono h66 (by omega) (by omega)) (rp_mono h67 (by omega) (by omega)) (rp_mono h60 (by omega) (by omega)) (rp_mono h61 (by omega) (by omega)) (qp2_mono h64 (by omega) (by omega)) (qp2_mono h65 (by omega) (by omega)) (qp2_mono h70 (by omega) (by omega)) (qp2_mono h71 (by omega) (by omega)) (by exact zRS_open u0 (by assumption) (by assumption) (by assumption) (by assumption) (by assumption) (by assumption) (by assumption) (by assumption) (by omega) (by omega) (by omega) (by omega) (by omega) (by omega) (by omega))
              refine ⟨fun c287 => ?_, fun c287 => ?_⟩
              · have f75 : r7.toInt ≠ 64 := i_ne (a := r7.toInt) (b := 64) rfl rfl c287
                exact j_295 1 (by omega) (by omega)
              · have f76 : r7.toInt = 64 := i_eq (a := r7.toInt) (b := 64) rfl rfl c287
                exact j_295 3 (by omega) (by omega)
            refine ⟨fun c204 => ?_, fun c204 => ?_⟩
            · have f77 : r7.toInt ≠ 64 := i_ne (a := r7.toInt) (b := 64) rfl rfl c204
              exact j_269 r156_0 r156_1 g200 (by omega) (by omega) (by omega) (by omega)
            · have f78 : r7.toInt = 64 := i_eq (a := r7.toInt) (b := 64) rfl rfl c204
              intro x213 ex213
              have f79 : x213.toInt = v_at.toInt + 2 := i_add (a := v_at.toInt) (b := 2) ex213 rfl rfl (by omega) (by omega)
              refine ok_X12_signAt (by omega) (by omega) (by omega) (rp_mono b0 (by omega) (by omega)) (fun r214 f80 f81 f82 f83 f84 f85 => ?_)
              refine ok_X12_in  (fun r223 f86 f87 f88 f89 f90 f91 => ?_)
              have j_240 : ∀ (v_fault_240 : Int32) (v_faultAt_240 : Int32), v_fault.toInt ≤ v_fault_240.toInt → v_fault_240.toInt ≤ v_at.toInt + 1 → ((1 ≤ v_fault_240.toInt) ∨ (r7.toInt ≠ 64) ∨ (v_at.toInt + 3 ≤ v_taped.toInt)) → ((v_fault_240.toInt = r156_0.toInt ∧ v_faultAt_240.toInt = r156_1.toInt) ∨ (r223.toInt = 0 ∧ r156_0.toInt ≤ v_fault_240.toInt ∧ 1 ≤ v_fault_240.toInt)) → v_fault_240.toInt ≤ 1 → w_X12_openGroup_240 Q r7 r214 v_fault_240 v_faultAt_240 v_at r156_2 x187 x173 g200 v_groupSort v_groupValue v_rowFirst v_rowLast v_rowMany v_rowsFirst v_rowsLast v_rowsMany := by
                intro v_fault_240 v_faultAt_240 f92 f93 f94 f95 f96
                unfold w_X12_openGroup_240
                refine ok_X12_captureOf (by omega) (by omega) (fun r242 f97 f98 f99 f100 f101 f102 => ?_)
                have j_259 : ∀ (v_fault_259 : Int32) (v_faultAt_259 : Int32), v_fault.toInt ≤ v_fault_259.toInt → v_fault_259.toInt ≤ v_at.toInt + 3 → ((1 ≤ v_fault_259.toInt) ∨ (r7.toInt ≠ 64) ∨ (v_at.toInt + 3 ≤ v_taped.toInt)) → ((v_fault_259.toInt = v_fault_240.toInt ∧ v_faultAt_259.toInt = v_faultAt_240.toInt ∧ r242.toInt ≤ 0) ∨ (1 ≤ r242.toInt ∧ v_fault_240.toInt ≤ v_fault_259.toInt ∧ 1 ≤ v_fault_259.toInt)) → v_fault_259.toInt ≤ 3 → w_X12_openGroup_259 Q r7 r214 v_fault_259 v_faultAt_259 v_at r156_2 x187 x173 g200 v_groupSort v_groupValue v_rowFirst v_rowLast v_rowMany v_rowsFirst v_rowsLast v_rowsMany := by
                  intro v_fault_259 v_faultAt_259 f103 f104 f105 f106 f107
                  unfold w_X12_openGroup_259
                  refine ⟨i_in (by omega) (by omega), ?_⟩
                  intro g268 eg268
                  exact j_269 v_fault_259 v_faultAt_259 g268 (by omega) (by omega) (by omega) (by omega)
                refine ⟨fun c245 => ?_, fun c245 => ?_⟩
                · have f108 : r242.toInt ≤ 0 := i_le (a := r242.toInt) (b := 0) rfl rfl c245
                  exact j_259 v_fault_240 v_faultAt_240 (by omega) (by omega) (by omega) (by omega) (by omega)
                · have f109 : 0 < r242.toInt := i_nle (a := r242.toInt) (b := 0) rfl rfl c245
                  intro x255 ex255
                  have f110 : x255.toInt = v_at.toInt + 2 := i_add (a := v_at.toInt) (b := 2) ex255 rfl rfl (by omega) (by omega)
                  refine ok_X12_fail (by omega) (by omega) (by omega) (fun r256_0 r256_1 f111 f112 f113 => ?_)
                  exact j_259 r256_0 r256_1 (by omega) (by omega) (by omega) (by omega) (by omega)
              refine ⟨fun c226 => ?_, fun c226 => ?_⟩
              · have f114 : r223.toInt ≠ 0 := i_ne (a := r223.toInt) (b := 0) rfl rfl c226
                exact j_240 r156_0 r156_1 (by omega) (by omega) (by omega) (by omega) (by omega)
              · have f115 : r223.toInt = 0 := i_eq (a := r223.toInt) (b := 0) rfl rfl c226
                intro x236 ex236
                have f116 : x236.toInt = v_at.toInt + 2 := i_add (a := v_at.toInt) (b := 2) ex236 rfl rfl (by omega) (by omega)
                refine ok_X12_fail (by omega) (by omega) (by omega) (fun r237_0 r237_1 f117 f118 f119 => ?_)
                exact j_240 r237_0 r237_1 (by omega) (by omega) (by omega) (by omega) (by omega)
        · have f120 : 0 < r156_0.toInt := i_nle (a := r156_0.toInt) (b := 0) rfl rfl c163
          exact hq r156_0 r156_1 v_at r156_2 v_newCaptures v_depth v_newNames v_groupSort v_groupValue v_rowFirst v_rowLast v_rowMany v_rowsFirst v_rowsLast v_rowsMany (by omega) (by omega) (by omega) (by omega) (by omega) (by omega) (by omega) (by omega) (by omega) (by omega) (by omega) (by omega) (by omega) (by omega) (by omega) (by omega) (qp2_mono b1 (by omega) (by omega)) (qp2_mono b2 (by omega) (by omega)) (qp2_mono b3 (by omega) (by omega)) (qp2_mono b4 (by omega) (by omega)) (rp_mono b5 (by omega) (by omega)) (rp_mono b6 (by omega) (by omega)) (rp_mono b7 (by omega) (by omega)) (rp_mono b8 (by omega) (by omega)) (qp2_mono b2 (by omega) (by omega)) (qp2_mono b4 (by omega) (by omega)) (qp2_mono b1 (by omega) (by omega)) (qp2_mono b3 (by omega) (by omega)) (by exact Or.inl (by omega))
      have j_142 : ((9 ≤ v_depth.toInt) ∨ (v_depth.toInt ≤ 8 ∧ s0_119.toInt = 0 ∧ v_newCaptures.toInt = 9)) → w_X12_openGroup_142 v_taped v_tape Q r7 s0_119 v_fault v_faultAt v_at v_items v_newCaptures v_depth v_newNames v_groupSort v_groupValue v_rowFirst v_rowLast v_rowMany v_rowsFirst v_rowsLast v_rowsMany := by
        intro f121
        unfold w_X12_openGroup_142
        refine ok_X12_fail (by omega) (by omega) (by omega) (fun r148_0 r148_1 f122 f123 f124 => ?_)
        exact j_151 r148_0 r148_1 (by omega) (by omega) (by omega) (by omega)
      refine ⟨fun c126 => ?_, fun c126 => ?_⟩
      · have f125 : 8 < v_depth.toInt := i_lt (a := 8) (b := v_depth.toInt) rfl rfl c126
        exact j_142  (by omega)
      · have f126 : v_depth.toInt ≤ 8 := i_nlt (a := 8) (b := v_depth.toInt) rfl rfl c126
        refine ⟨fun c130 => ?_, fun c130 => ?_⟩
        · have f127 : s0_119.toInt ≠ 0 := i_ne (a := s0_119.toInt) (b := 0) rfl rfl c130
          exact j_151 v_fault v_faultAt (by omega) (by omega) (by omega) (by omega)
        · have f128 : s0_119.toInt = 0 := i_eq (a := s0_119.toInt) (b := 0) rfl rfl c130
          refine ⟨fun c139 => ?_, fun c139 => ?_⟩
          · have f129 : v_newCaptures.toInt ≠ 9 := i_ne (a := v_newCaptures.toInt) (b := 9) rfl rfl c139
            exact j_151 v_fault v_faultAt (by omega) (by omega) (by omega) (by omega)
          · have f130 : v_newCaptures.toInt = 9 := i_eq (a := v_newCaptures.toInt) (b := 9) rfl rfl c139
            exact j_142  (by omega)
    have j_114 : ((1 ≤ v_fault.toInt) ∨ (r7.toInt ≠ 64) ∨ (v_at.toInt + 3 ≤ v_taped.toInt)) → v_at.toInt + 2 ≤ v_taped.toInt → w_X12_openGroup_114 v_taped v_tape Q r7 v_fault v_faultAt v_at v_items v_newCaptures v_depth v_newNames v_groupSort v_groupValue v_rowFirst v_rowLast v_rowMany v_rowsFirst v_rowsLast v_rowsMany := by
      intro f131 f132
      unfold w_X12_openGroup_114
      exact j_119 1 (by omega) (by omega) (by omega)
    refine ⟨fun c75 => ?_, fun c75 => ?_⟩
    · have f133 : r7.toInt = 58 := i_eq (a := r7.toInt) (b := 58) rfl rfl c75
      exact j_114  (by omega) (by omega)
    · have f134 : r7.toInt ≠ 58 := i_ne (a := r7.toInt) (b := 58) rfl rfl c75
      refine ⟨fun c81 => ?_, fun c81 => ?_⟩
      · have f135 : r7.toInt = 61 := i_eq (a := r7.toInt) (b := 61) rfl rfl c81
        exact j_114  (by omega) (by omega)
      · have f136 : r7.toInt ≠ 61 := i_ne (a := r7.toInt) (b := 61) rfl rfl c81
        refine ⟨fun c87 => ?_, fun c87 => ?_⟩
        · have f137 : r7.toInt = 33 := i_eq (a := r7.toInt) (b := 33) rfl rfl c87
          exact j_114  (by omega) (by omega)
        · have f138 : r7.toInt ≠ 33 := i_ne (a := r7.toInt) (b := 33) rfl rfl c87
          refine ⟨fun c93 => ?_, fun c93 => ?_⟩
          · have f139 : r7.toInt = 60 := i_eq (a := r7.toInt) (b := 60) rfl rfl c93
            exact j_114  (by omega) (by omega)
          · have f140 : r7.toInt ≠ 60 := i_ne (a := r7.toInt) (b := 60) rfl rfl c93
            refine ⟨fun c99 => ?_, fun c99 => ?_⟩
            · have f141 : r7.toInt = 126 := i_eq (a := r7.toInt) (b := 126) rfl rfl c99
              exact j_114  (by omega) (by omega)
            · have f142 : r7.toInt ≠ 126 := i_ne (a := r7.toInt) (b := 126) rfl rfl c99
              refine ⟨fun c105 => ?_, fun c105 => ?_⟩
              · have f143 : r7.toInt = 42 := i_eq (a := r7.toInt) (b := 42) rfl rfl c105
                exact j_114  (by omega) (by omega)
              · have f144 : r7.toInt ≠ 42 := i_ne (a := r7.toInt) (b := 42) rfl rfl c105
                refine ⟨fun c111 => ?_, fun c111 => ?_⟩
                · have f145 : r7.toInt ≠ 37 := i_ne (a := r7.toInt) (b := 37) rfl rfl c111
                  exact j_119 0 (by omega) (by omega) (by omega)
                · have f146 : r7.toInt = 37 := i_eq (a := r7.toInt) (b := 37) rfl rfl c111
                  exact j_114  (by omega) (by omega)
  · have f147 : r7.toInt = 35 := i_eq (a := r7.toInt) (b := 35) rfl rfl c14
    intro x22 ex22
    have f148 : x22.toInt = v_at.toInt + 2 := i_add (a := v_at.toInt) (b := 2) ex22 rfl rfl (by omega) (by omega)
    have j_24 : ∀ n_24 : Nat, ∀ (l2_24 : Int32), x22.toInt ≤ l2_24.toInt → l2_24.toInt ≤ v_taped.toInt → ((-1) * l2_24.toInt + 2147483648).toNat < n_24 → w_X12_openGroup_24 v_taped v_tape Q v_fault v_faultAt v_at v_items v_newCaptures v_depth v_newNames v_groupSort v_groupValue v_rowFirst v_rowLast v_rowMany v_rowsFirst v_rowsLast v_rowsMany n_24 l2_24 := by
      intro n_24
      induction n_24 with
      | zero =>
        intro l2_24 f149 f150 hm_24
        exfalso; omega
      | succ n_24 ih_24 =>
        intro l2_24 f149 f150 hm_24
        unfold w_X12_openGroup_24
        unfold w_X12_openGroup_24B
        refine ok_X12_signAt (by omega) (by omega) (by omega) (rp_mono b0 (by omega) (by omega)) (fun r26 f151 f152 f153 f154 f155 f156 => ?_)
        have j_49 : w_X12_openGroup_49 v_taped v_tape Q l2_24 v_fault v_faultAt v_at v_items v_newCaptures v_depth v_newNames v_groupSort v_groupValue v_rowFirst v_rowLast v_rowMany v_rowsFirst v_rowsLast v_rowsMany := by
          unfold w_X12_openGroup_49
          refine ok_X12_signAt (by omega) (by omega) (by omega) (rp_mono b0 (by omega) (by omega)) (fun r51 f157 f158 f159 f160 f161 f162 => ?_)
          have j_64 : ∀ (v_fault_64 : Int32) (v_faultAt_64 : Int32), v_fault.toInt ≤ v_fault_64.toInt → ((1 ≤ v_fault_64.toInt) ∨ (l2_24.toInt + 1 ≤ v_taped.toInt)) → ((v_fault_64.toInt = v_fault.toInt ∧ v_faultAt_64.toInt = v_faultAt.toInt) ∨ (r51.toInt + 1 = 0 ∧ v_fault.toInt ≤ v_fault_64.toInt ∧ 1 ≤ v_fault_64.toInt)) → w_X12_openGroup_64 Q l2_24 v_fault_64 v_faultAt_64 v_at v_items v_newCaptures v_depth v_newNames v_groupSort v_groupValue v_rowFirst v_rowLast v_rowMany v_rowsFirst v_rowsLast v_rowsMany := by
            intro v_fault_64 v_faultAt_64 f163 f164 f165
            unfold w_X12_openGroup_64
            intro x67 ex67
            have f166 : x67.toInt = l2_24.toInt + 1 := i_add (a := l2_24.toInt) (b := 1) ex67 rfl rfl (by omega) (by omega)
            exact hq v_fault_64 v_faultAt_64 x67 v_items v_newCaptures v_depth v_newNames v_groupSort v_groupValue v_rowFirst v_rowLast v_rowMany v_rowsFirst v_rowsLast v_rowsMany (by omega) (by omega) (by omega) (by omega) (by omega) (by omega) (by omega) (by omega) (by omega) (by omega) (by omega) (by omega) (by omega) (by omega) (by omega) (by omega) (qp2_mono b1 (by omega) (by omega)) (qp2_mono b2 (by omega) (by omega)) (qp2_mono b3 (by omega) (by omega)) (qp2_mono b4 (by omega) (by omega)) (rp_mono b5 (by omega) (by omega)) (rp_mono b6 (by omega) (by omega)) (rp_mono b7 (by omega) (by omega)) (rp_mono b8 (by omega) (by omega)) (qp2_mono b2 (by omega) (by omega)) (qp2_mono b4 (by omega) (by omega)) (qp2_mono b1 (by omega) (by omega)) (qp2_mono b3 (by omega) (by omega)) (by exact zRS_mono u0 (by omega) (by omega) (by omega) (by omega))
          refine ⟨fun c55 => ?_, fun c55 => ?_⟩
          · have f167 : r51.toInt ≠ (-1) := i_ne (a := r51.toInt) (b := (-1)) rfl rfl c55
            exact j_64 v_fault v_faultAt (by omega) (by omega) (by omega)
          · have f168 : r51.toInt = (-1) := i_eq (a := r51.toInt) (b := (-1)) rfl rfl c55
            refine ok_X12_fail (by omega) (by omega) (by omega) (fun r61_0 r61_1 f169 f170 f171 => ?_)
            exact j_64 r61_0 r61_1 (by omega) (by omega) (by omega)
        refine ⟨fun c30 => ?_, fun c30 => ?_⟩
        · have f172 : r26.toInt = (-1) := i_eq (a := r26.toInt) (b := (-1)) rfl rfl c30
          exact j_49  
        · have f173 : r26.toInt ≠ (-1) := i_ne (a := r26.toInt) (b := (-1)) rfl rfl c30
          refine ok_X12_signAt (by omega) (by omega) (by omega) (rp_mono b0 (by omega) (by omega)) (fun r35 f174 f175 f176 f177 f178 f179 => ?_)
          refine ⟨fun c40 => ?_, fun c40 => ?_⟩
          · have f180 : r35.toInt = 41 := i_eq (a := r35.toInt) (b := 41) rfl rfl c40
            exact j_49  
          · have f181 : r35.toInt ≠ 41 := i_ne (a := r35.toInt) (b := 41) rfl rfl c40
            intro x43 ex43
            have f182 : x43.toInt = l2_24.toInt + 1 := i_add (a := l2_24.toInt) (b := 1) ex43 rfl rfl (by omega) (by omega)
            exact ih_24 x43 (by omega) (by omega) (by have h8_0 := i_rng l2_24; have h8_1 := i_rng x43; omega)
    exact ⟨((-1) * x22.toInt + 2147483648).toNat + 1, j_24   (((-1) * x22.toInt + 2147483648).toNat + 1) x22 (by omega) (by omega) (by omega)⟩
set_option maxHeartbeats 4000000 in
theorem ok_X12_closeGroup {v_taped : Int32} {v_newNodes : Int32} {v_fault : Int32} {v_faultAt : Int32} {v_at : Int32} {v_items : Int32} {v_depth : Int32} {v_loopLeast : Int32} {v_loopMost : Int32} {v_tape : Nat → Int32} {v_newSort : Nat → Int32} {v_newValue : Nat → Int32} {v_newLeast : Nat → Int32} {v_newMost : Nat → Int32} {v_newFirst : Nat → Int32} {v_newNext : Nat → Int32} {v_newMany : Nat → Int32} {v_newPart : Nat → Int32} {v_groupSort : Nat → Int32} {v_groupValue : Nat → Int32} {v_rowFirst : Nat → Int32} {v_rowLast : Nat → Int32} {v_rowMany : Nat → Int32} {v_rowsFirst : Nat → Int32} {v_rowsLast : Nat → Int32} {v_rowsMany : Nat → Int32} {v_newBegin : Nat → Int32} {v_newEnd : Nat → Int32} {v_newParts : Int32} {v_newCaptures : Int32} {Q : Int32 → Int32 → Int32 → Int32 → Int32 → Int32 → Int32 → Int32 → (Nat → Int32) → (Nat → Int32) → (Nat → Int32) → (Nat → Int32) → (Nat → Int32) → (Nat → Int32) → (Nat → Int32) → (Nat → Int32) → (Nat → Int32) → (Nat → Int32) → (Nat → Int32) → (Nat → Int32) → (Nat → Int32) → (Nat → Int32) → Prop} (a0 : 0 ≤ v_taped.toInt) (a1 : v_taped.toInt ≤ 200) (a2 : v_at.toInt + 1 ≤ v_taped.toInt) (a3 : 0 ≤ v_fault.toInt) (a4 : 0 ≤ v_at.toInt) (a5 : v_at.toInt ≤ 900) (a6 : 0 ≤ v_depth.toInt) (a7 : v_depth.toInt ≤ 9) (a8 : 0 ≤ v_newNodes.toInt) (a9 : v_newNodes.toInt ≤ 250) (a10 : 0 ≤ v_items.toInt) (a11 : v_items.toInt ≤ 100) (b0 : rp (fun k v => 32 ≤ v ∧ v ≤ 126) v_tape 0 v_taped.toInt) (b1 : qp2 (fun k m l => (m = 0) ∨ (0 ≤ l ∧ l ≤ 259)) v_rowMany v_rowFirst 0 12) (b2 : qp2 (fun k m l => (m = 0) ∨ (0 ≤ l ∧ l ≤ 259)) v_rowsMany v_rowsFirst 0 12) (b3 : qp2 (fun k m l => (m = 0) ∨ (0 ≤ l ∧ l ≤ 259)) v_rowMany v_rowLast 0 12) (b4 : qp2 (fun k m l => (m = 0) ∨ (0 ≤ l ∧ l ≤ 259)) v_rowsMany v_rowsLast 0 12) (b5 : rp (fun k v => -1 ≤ v ∧ v ≤ 259) v_rowFirst 0 12) (b6 : rp (fun k v => -1 ≤ v ∧ v ≤ 259) v_rowLast 0 12) (b7 : rp (fun k v => -1 ≤ v ∧ v ≤ 259) v_rowsFirst 0 12) (b8 : rp (fun k v => -1 ≤ v ∧ v ≤ 259) v_rowsLast 0 12) (u0 : zRS v_fault.toInt v_newSort v_newValue v_newLeast v_newMost v_newFirst v_newNext v_newMany v_newPart v_newBegin v_newEnd v_rowFirst v_rowLast v_rowMany v_rowsFirst v_rowsLast v_rowsMany v_groupSort v_groupValue v_depth.toInt v_newNodes.toInt v_newParts.toInt v_newCaptures.toInt v_items.toInt v_at.toInt (16 * v_at.toInt)) (u1 : v_newCaptures.toInt ≤ 9) (hq : ∀ (ov_newNodes : Int32) (ov_fault : Int32) (ov_faultAt : Int32) (ov_at : Int32) (ov_items : Int32) (ov_depth : Int32) (ov_loopLeast : Int32) (ov_loopMost : Int32) (ov_newSort : Nat → Int32) (ov_newValue : Nat → Int32) (ov_newLeast : Nat → Int32) (ov_newMost : Nat → Int32) (ov_newFirst : Nat → Int32) (ov_newNext : Nat → Int32) (ov_newMany : Nat → Int32) (ov_newPart : Nat → Int32) (ov_rowFirst : Nat → Int32) (ov_rowLast : Nat → Int32) (ov_rowMany : Nat → Int32) (ov_rowsFirst : Nat → Int32) (ov_rowsLast : Nat → Int32) (ov_rowsMany : Nat → Int32), v_fault.toInt ≤ ov_fault.toInt → v_newNodes.toInt ≤ ov_newNodes.toInt → v_at.toInt ≤ ov_at.toInt → v_items.toInt ≤ ov_items.toInt → ov_depth.toInt ≤ v_depth.toInt → ov_newNodes.toInt ≤ 255 → ov_at.toInt ≤ 210 → ov_items.toInt ≤ 101 → 0 ≤ ov_depth.toInt → ov_depth.toInt ≤ 8 → ((1 ≤ ov_fault.toInt) ∨ (ov_at.toInt ≤ v_taped.toInt)) → ((v_at.toInt + 1 ≤ ov_at.toInt) ∨ (1 ≤ ov_fault.toInt)) → ov_at.toInt ≤ v_at.toInt + 11 → 2 * ov_depth.toInt + ov_newNodes.toInt + v_at.toInt ≤ ov_at.toInt + 2 * v_depth.toInt + v_newNodes.toInt → ov_newNodes.toInt ≤ v_newNodes.toInt + 4 → ov_items.toInt ≤ v_items.toInt + 1 → ((1 ≤ ov_fault.toInt) ∨ (ov_items.toInt ≤ 100)) → qp2 (fun k m l => (m = 0) ∨ (0 ≤ l ∧ l ≤ 259)) ov_rowMany ov_rowFirst 0 12 → qp2 (fun k m l => (m = 0) ∨ (0 ≤ l ∧ l ≤ 259)) ov_rowsMany ov_rowsFirst 0 12 → qp2 (fun k m l => (m = 0) ∨ (0 ≤ l ∧ l ≤ 259)) ov_rowMany ov_rowLast 0 12 → qp2 (fun k m l => (m = 0) ∨ (0 ≤ l ∧ l ≤ 259)) ov_rowsMany ov_rowsLast 0 12 → rp (fun k v => -1 ≤ v ∧ v ≤ 259) ov_rowFirst 0 12 → rp (fun k v => -1 ≤ v ∧ v ≤ 259) ov_rowLast 0 12 → rp (fun k v => -1 ≤ v ∧ v ≤ 259) ov_rowsFirst 0 12 → rp (fun k v => -1 ≤ v ∧ v ≤ 259) ov_rowsLast 0 12 → qp2 (fun k m l => (m = 0) ∨ (0 ≤ l ∧ l ≤ 259)) v_rowsMany ov_rowsFirst 0 12 → qp2 (fun k m l => (m = 0) ∨ (0 ≤ l ∧ l ≤ 259)) v_rowsMany ov_rowsLast 0 12 → (zRS ov_fault.toInt ov_newSort ov_newValue ov_newLeast ov_newMost ov_newFirst ov_newNext ov_newMany ov_newPart v_newBegin v_newEnd ov_rowFirst ov_rowLast ov_rowMany ov_rowsFirst ov_rowsLast ov_rowsMany v_groupSort v_groupValue ov_depth.toInt ov_newNodes.toInt v_newParts.toInt v_newCaptures.toInt ov_items.toInt ov_at.toInt (16 * ov_at.toInt)) → Q ov_newNodes ov_fault ov_faultAt ov_at ov_items ov_depth ov_loopLeast ov_loopMost ov_newSort ov_newValue ov_newLeast ov_newMost ov_newFirst ov_newNext ov_newMany ov_newPart ov_rowFirst ov_rowLast ov_rowMany ov_rowsFirst ov_rowsLast ov_rowsMany) : w_X12_closeGroup v_taped v_newNodes v_fault v_faultAt v_at v_items v_depth v_loopLeast v_loopMost v_tape v_newSort v_newValue v_newLeast v_newMost v_newFirst v_newNext v_newMany v_newPart v_groupSort v_groupValue v_rowFirst v_rowLast v_rowMany v_rowsFirst v_rowsLast v_rowsMany Q := by
  have q_t : (bz true).toInt = 1 := rfl
  have q_f : (bz false).toInt = 0 := rfl
  have q_1 : (1 : Int32).toInt = 1 := rfl
  unfold w_X12_closeGroup
  refine ⟨fun c4 => ?_, fun c4 => ?_⟩
  · have f1 : v_depth.toInt ≠ 0 := i_ne (a := v_depth.toInt) (b := 0) rfl rfl c4
    refine ok_X12_closeChoice (v_newBegin := v_newBegin) (v_newEnd := v_newEnd) (v_groupSort := v_groupSort) (v_groupValue := v_groupValue) (v_fault := v_fault) (v_newParts := v_newParts) (v_newCaptures := v_newCaptures) (gi9 := _) (ga9 := _) (gw9 := _) (by omega) (by omega) (by omega) (by omega) (qp2_mono b1 (by omega) (by omega)) (qp2_mono b2 (by omega) (by omega)) (qp2_mono b3 (by omega) (by omega)) (qp2_mono b4 (by omega) (by omega)) (rp_mono b5 (by omega) (by omega)) (rp_mono b6 (by omega) (by omega)) (rp_mono b7 (by omega) (by omega)) (rp_mono b8 (by omega) (by omega)) (by first | assumption | omega) (fun r18 r18_0 r18_1 r18_2 r18_3 r18_4 r18_5 r18_6 r18_7 r18_8 r18_9 r18_10 r18_11 r18_12 r18_13 r18_14 f2 f3 f4 h5 h6 h7 h8 h9 h10 h11 h12 h13 h14 h15 h16 u18_0 => ?_)
    refine ⟨i_in (by omega) (by omega), ?_⟩
    intro x30 ex30
    have j_56 : ∀ (s0_56 : Int32) (v_newNodes_56 : Int32) (v_newSort_56 : Nat → Int32) (v_newValue_56 : Nat → Int32) (v_newLeast_56 : Nat → Int32) (v_newMost_56 : Nat → Int32) (v_newFirst_56 : Nat → Int32) (v_newNext_56 : Nat → Int32) (v_newMany_56 : Nat → Int32) (v_newPart_56 : Nat → Int32), v_newNodes.toInt ≤ v_newNodes_56.toInt → v_newNodes_56.toInt ≤ v_newNodes.toInt + 4 → ((s0_56.toInt = r18_0.toInt ∧ v_newNodes_56.toInt = r18_0.toInt + 1) ∨ (s0_56.toInt = r18.toInt ∧ v_newNodes_56.toInt = r18_0.toInt)) → (zRP v_fault.toInt v_newSort_56 v_newValue_56 v_newLeast_56 v_newMost_56 v_newFirst_56 v_newNext_56 v_newMany_56 v_newPart_56 v_newBegin v_newEnd r18_9 r18_10 r18_11 r18_12 r18_13 r18_14 v_groupSort v_groupValue (v_depth.toInt - 1) s0_56.toInt v_newNodes_56.toInt v_newParts.toInt v_newCaptures.toInt (v_items.toInt - 1) v_at.toInt (16 * v_at.toInt + 12 + 12 - 12)) → w_X12_closeGroup_56 v_taped v_tape Q s0_56 v_newNodes_56 v_fault v_faultAt v_at v_items v_depth v_loopLeast v_loopMost v_newSort_56 v_newValue_56 v_newLeast_56 v_newMost_56 v_newFirst_56 v_newNext_56 v_newMany_56 v_newPart_56 r18_9 r18_10 r18_11 r18_12 r18_13 r18_14 := by
      intro s0_56 v_newNodes_56 v_newSort_56 v_newValue_56 v_newLeast_56 v_newMost_56 v_newFirst_56 v_newNext_56 v_newMany_56 v_newPart_56 f17 f18 f19 u56_0
      unfold w_X12_closeGroup_56
      intro x63 ex63
      have f20 : x63.toInt = v_depth.toInt - 1 := i_sub (a := v_depth.toInt) (b := 1) ex63 rfl rfl (by omega) (by omega)
      intro x73 ex73
      have f21 : x73.toInt = v_at.toInt + 1 := i_add (a := v_at.toInt) (b := 1) ex73 rfl rfl (by omega) (by omega)
      refine ok_X12_looped (v_newBegin := v_newBegin) (v_newEnd := v_newEnd) (v_rowFirst := r18_9) (v_rowLast := r18_10) (v_rowMany := r18_11) (v_rowsFirst := r18_12) (v_rowsLast := r18_13) (v_rowsMany := r18_14) (v_groupSort := v_groupSort) (v_groupValue := v_groupValue) (v_newParts := v_newParts) (v_newCaptures := v_newCaptures) (v_depth := x63) (gi9 := _) (ga9 := _) (gw9 := _) (by omega) (by omega) (by omega) (by omega) (by omega) (by omega) (by omega) (by omega) (by omega) (by omega) (by omega) (by omega) (by omega) (rp_mono b0 (by omega) (by omega)) (by have hd9 : x63.toInt = v_depth.toInt - 1 := (by omega); rw [hd9]; exact u56_0) (by first | assumption | omega) (by first | assumption | omega) (by first | assumption | omega) (fun r80 r80_0 r80_1 r80_2 r80_3 r80_4 r80_5 r80_6 r80_7 r80_8 r80_9 r80_10 r80_11 r80_12 r80_13 r80_14 f22 f23 f24 f25 f26 f27 f28 f29 f30 f31 f32 f33 f34 f35 f36 u80_0 => ?_)
      refine ok_X12_addNode (v_newSort := r80_7) (v_newValue := r80_8) (v_newLeast := r80_9) (v_newMost := r80_10) (v_newFirst := r80_11) (v_newMany := r80_13) (v_newPart := r80_14) (v_newBegin := v_newBegin) (v_newEnd := v_newEnd) (v_rowsFirst := r18_12) (v_rowsLast := r18_13) (v_rowsMany := r18_14) (v_groupSort := v_groupSort) (v_groupValue := v_groupValue) (v_fault := r80_1) (v_newNodes := r80_0) (v_newParts := v_newParts) (v_newCaptures := v_newCaptures) (gi9 := _) (ga9 := _) (gw9 := _) (by omega) (by omega) (by omega) (by omega) (qp2_mono h13 (by omega) (by omega)) (qp2_mono h14 (by omega) (by omega)) (rp_mono h11 (by omega) (by omega)) (rp_mono h12 (by omega) (by omega)) (by first | assumption | omega) (by first | assumption | omega) (fun r83_0 r83_1 r83_2 r83_3 h37 h38 h39 h40 h41 h42 u83_0 => ?_)
      exact hq r80_0 r80_1 r80_2 r80_3 r80_4 x63 r80_5 r80_6 r80_7 r80_8 r80_9 r80_10 r80_11 r83_0 r80_13 r80_14 r83_1 r83_2 r83_3 r18_12 r18_13 r18_14 (by omega) (by omega) (by omega) (by omega) (by omega) (by omega) (by omega) (by omega) (by omega) (by omega) (by omega) (by omega) (by omega) (by omega) (by omega) (by omega) (by omega) (qp2_mono h41 (by omega) (by omega)) (qp2_mono h9 (by omega) (by omega)) (qp2_mono h42 (by omega) (by omega)) (qp2_mono h10 (by omega) (by omega)) (rp_mono h38 (by omega) (by omega)) (rp_mono h40 (by omega) (by omega)) (rp_mono h6 (by omega) (by omega)) (rp_mono h8 (by omega) (by omega)) (qp2_mono h5 (by omega) (by omega)) (qp2_mono h7 (by omega) (by omega)) (by assumption)
    refine ⟨fun c34 => ?_, fun c34 => ?_⟩
    · have f43 : x30.toInt ≠ 5 := i_ne (a := x30.toInt) (b := 5) rfl rfl c34
      refine ⟨i_in (by omega) (by omega), ?_⟩
      intro x51 ex51
      refine ok_X12_holding (by omega) (by omega) (fun r53 r53_0 r53_1 r53_2 r53_3 r53_4 r53_5 r53_6 r53_7 r53_8 f44 f45 u53_0 => ?_)
      exact j_56 r53 r53_0 r53_1 r53_2 r53_3 r53_4 r53_5 r53_6 r53_7 r53_8 (by omega) (by omega) (by omega) (by first | exact zRP_close0 (by assumption) (by assumption) (by omega) (by omega) (by omega) | exact zRP_close (by assumption) (by assumption) (by assumption) (by assumption) (by omega) (by omega) (by omega) (by omega) (by omega) (by omega) (by omega))
    · have f46 : x30.toInt = 5 := i_eq (a := x30.toInt) (b := 5) rfl rfl c34
      exact j_56 r18 r18_0 r18_1 r18_2 r18_3 r18_4 r18_5 r18_6 r18_7 r18_8 (by omega) (by omega) (by omega) (by first | exact zRP_close0 (by assumption) (by assumption) (by omega) (by omega) (by omega) | exact zRP_close (by assumption) (by assumption) (by assumption) (by assumption) (by omega) (by omega) (by omega) (by omega) (by omega) (by omega) (by omega))
  · have f47 : v_depth.toInt = 0 := i_eq (a := v_depth.toInt) (b := 0) rfl rfl c4
    refine ok_X12_fail (by omega) (by omega) (by omega) (fun r13_0 r13_1 f48 f49 f50 => ?_)
    exact hq v_newNodes r13_0 r13_1 v_at v_items v_depth v_loopLeast v_loopMost v_newSort v_newValue v_newLeast v_newMost v_newFirst v_newNext v_newMany v_newPart v_rowFirst v_rowLast v_rowMany v_rowsFirst v_rowsLast v_rowsMany (by omega) (by omega) (by omega) (by omega) (by omega) (by omega) (by omega) (by omega) (by omega) (by omega) (by omega) (by omega) (by omega) (by omega) (by omega) (by omega) (by omega) (qp2_mono b1 (by omega) (by omega)) (qp2_mono b2 (by omega) (by omega)) (qp2_mono b3 (by omega) (by omega)) (qp2_mono b4 (by omega) (by omega)) (rp_mono b5 (by omega) (by omega)) (rp_mono b6 (by omega) (by omega)) (rp_mono b7 (by omega) (by omega)) (rp_mono b8 (by omega) (by omega)) (qp2_mono b2 (by omega) (by omega)) (qp2_mono b4 (by omega) (by omega)) (by exact Or.inl (by omega))
set_option maxHeartbeats 4000000 in
theorem ok_X12_readOne {p1 : Int32} {v_taped : Int32} {v_newNodes : Int32} {v_newParts : Int32} {v_fault : Int32} {v_faultAt : Int32} {v_at : Int32} {v_items : Int32} {v_newCaptures : Int32} {v_depth : Int32} {v_memberValue : Int32} {v_memberEnd : Int32} {v_loopLeast : Int32} {v_loopMost : Int32} {v_tape : Nat → Int32} {v_newSort : Nat → Int32} {v_newValue : Nat → Int32} {v_newLeast : Nat → Int32} {v_newMost : Nat → Int32} {v_newFirst : Nat → Int32} {v_newNext : Nat → Int32} {v_newMany : Nat → Int32} {v_newPart : Nat → Int32} {v_newBegin : Nat → Int32} {v_newEnd : Nat → Int32} {v_newNames : Nat → Int32} {v_rowFirst : Nat → Int32} {v_rowLast : Nat → Int32} {v_rowMany : Nat → Int32} {v_rowsFirst : Nat → Int32} {v_rowsLast : Nat → Int32} {v_rowsMany : Nat → Int32} {v_groupSort : Nat → Int32} {v_groupValue : Nat → Int32} {Q : Int32 → Int32 → Int32 → Int32 → Int32 → Int32 → Int32 → Int32 → Int32 → Int32 → (Nat → Int32) → (Nat → Int32) → (Nat → Int32) → (Nat → Int32) → (Nat → Int32) → (Nat → Int32) → (Nat → Int32) → (Nat → Int32) → (Nat → Int32) → (Nat → Int32) → (Nat → Int32) → (Nat → Int32) → (Nat → Int32) → Prop} (a0 : 0 ≤ v_taped.toInt) (a1 : v_taped.toInt ≤ 200) (a2 : 32 ≤ p1.toInt) (a3 : p1.toInt ≤ 126) (a4 : v_fault.toInt = 0) (a5 : 0 ≤ v_at.toInt) (a6 : v_at.toInt + 1 ≤ v_taped.toInt) (a7 : 0 ≤ v_newNodes.toInt) (a8 : v_newNodes.toInt ≤ 250) (a9 : 0 ≤ v_newParts.toInt) (a10 : v_newParts.toInt ≤ 2 * v_at.toInt) (a11 : 0 ≤ v_newCaptures.toInt) (a12 : v_newCaptures.toInt ≤ 9) (a13 : 0 ≤ v_items.toInt) (a14 : v_items.toInt ≤ 100) (a15 : 0 ≤ v_depth.toInt) (a16 : v_depth.toInt ≤ 9) (b0 : rp (fun k v => 32 ≤ v ∧ v ≤ 126) v_tape 0 v_taped.toInt) (b1 : qp2 (fun k m l => (m = 0) ∨ (0 ≤ l ∧ l ≤ 259)) v_rowMany v_rowFirst 0 12) (b2 : qp2 (fun k m l => (m = 0) ∨ (0 ≤ l ∧ l ≤ 259)) v_rowMany v_rowLast 0 12) (b3 : rp (fun k v => -1 ≤ v ∧ v ≤ 259) v_rowFirst 0 12) (b4 : rp (fun k v => -1 ≤ v ∧ v ≤ 259) v_rowLast 0 12) (u0 : zRS v_fault.toInt v_newSort v_newValue v_newLeast v_newMost v_newFirst v_newNext v_newMany v_newPart v_newBegin v_newEnd v_rowFirst v_rowLast v_rowMany v_rowsFirst v_rowsLast v_rowsMany v_groupSort v_groupValue v_depth.toInt v_newNodes.toInt v_newParts.toInt v_newCaptures.toInt v_items.toInt v_at.toInt (16 * v_at.toInt)) (hq : ∀ (ov_newNodes : Int32) (ov_newParts : Int32) (ov_fault : Int32) (ov_faultAt : Int32) (ov_at : Int32) (ov_items : Int32) (ov_memberValue : Int32) (ov_memberEnd : Int32) (ov_loopLeast : Int32) (ov_loopMost : Int32) (ov_newSort : Nat → Int32) (ov_newValue : Nat → Int32) (ov_newLeast : Nat → Int32) (ov_newMost : Nat → Int32) (ov_newFirst : Nat → Int32) (ov_newNext : Nat → Int32) (ov_newMany : Nat → Int32) (ov_newPart : Nat → Int32) (ov_newBegin : Nat → Int32) (ov_newEnd : Nat → Int32) (ov_rowFirst : Nat → Int32) (ov_rowLast : Nat → Int32) (ov_rowMany : Nat → Int32), v_newNodes.toInt ≤ ov_newNodes.toInt → v_newParts.toInt ≤ ov_newParts.toInt → v_fault.toInt ≤ ov_fault.toInt → v_at.toInt ≤ ov_at.toInt → v_items.toInt ≤ ov_items.toInt → ov_newNodes.toInt ≤ 255 → ov_newParts.toInt ≤ 419 → ov_at.toInt ≤ 255 → ov_items.toInt ≤ 101 → ((1 ≤ ov_fault.toInt) ∨ (ov_at.toInt ≤ v_taped.toInt)) → ((1 ≤ ov_fault.toInt) ∨ (ov_items.toInt ≤ 100)) → ((v_at.toInt + 1 ≤ ov_at.toInt) ∨ (1 ≤ ov_fault.toInt)) → ov_at.toInt ≤ 250 → ov_newNodes.toInt + v_at.toInt ≤ ov_at.toInt + v_newNodes.toInt → ov_newNodes.toInt ≤ v_newNodes.toInt + 3 → ov_newParts.toInt + 2 * v_at.toInt ≤ 2 * ov_at.toInt + v_newParts.toInt → ov_items.toInt ≤ v_items.toInt + 2 → qp2 (fun k m l => (m = 0) ∨ (0 ≤ l ∧ l ≤ 259)) ov_rowMany ov_rowFirst 0 12 → qp2 (fun k m l => (m = 0) ∨ (0 ≤ l ∧ l ≤ 259)) ov_rowMany ov_rowLast 0 12 → rp (fun k v => -1 ≤ v ∧ v ≤ 259) ov_rowFirst 0 12 → rp (fun k v => -1 ≤ v ∧ v ≤ 259) ov_rowLast 0 12 → qp2 (fun k m l => (m = 0) ∨ (0 ≤ l ∧ l ≤ 259)) v_rowMany ov_rowFirst 0 12 → qp2 (fun k m l => (m = 0) ∨ (0 ≤ l ∧ l ≤ 259)) v_rowMany ov_rowLast 0 12 → (zRS ov_fault.toInt ov_newSort ov_newValue ov_newLeast ov_newMost ov_newFirst ov_newNext ov_newMany ov_newPart ov_newBegin ov_newEnd ov_rowFirst ov_rowLast ov_rowMany v_rowsFirst v_rowsLast v_rowsMany v_groupSort v_groupValue v_depth.toInt ov_newNodes.toInt ov_newParts.toInt v_newCaptures.toInt ov_items.toInt ov_at.toInt (16 * ov_at.toInt)) → Q ov_newNodes ov_newParts ov_fault ov_faultAt ov_at ov_items ov_memberValue ov_memberEnd ov_loopLeast ov_loopMost ov_newSort ov_newValue ov_newLeast ov_newMost ov_newFirst ov_newNext ov_newMany ov_newPart ov_newBegin ov_newEnd ov_rowFirst ov_rowLast ov_rowMany) : w_X12_readOne p1 v_taped v_newNodes v_newParts v_fault v_faultAt v_at v_items v_newCaptures v_depth v_memberValue v_memberEnd v_loopLeast v_loopMost v_tape v_newSort v_newValue v_newLeast v_newMost v_newFirst v_newNext v_newMany v_newPart v_newBegin v_newEnd v_newNames v_rowFirst v_rowLast v_rowMany Q := by
  have q_t : (bz true).toInt = 1 := rfl
  have q_f : (bz false).toInt = 0 := rfl
  have q_m1 : ((-1) : Int32).toInt = (-1) := rfl
  have q_0 : (0 : Int32).toInt = 0 := rfl
  have q_1 : (1 : Int32).toInt = 1 := rfl
  have q_3 : (3 : Int32).toInt = 3 := rfl
  unfold w_X12_readOne
  have j_36 : w_X12_readOne_36 Q v_newNodes v_newParts v_fault v_faultAt v_at v_items v_memberValue v_memberEnd v_loopLeast v_loopMost v_newSort v_newValue v_newLeast v_newMost v_newFirst v_newNext v_newMany v_newPart v_newBegin v_newEnd v_rowFirst v_rowLast v_rowMany := by
    unfold w_X12_readOne_36
    refine ok_X12_fail (by omega) (by omega) (by omega) (fun r42_0 r42_1 f1 f2 f3 => ?_)
    exact hq v_newNodes v_newParts r42_0 r42_1 v_at v_items v_memberValue v_memberEnd v_loopLeast v_loopMost v_newSort v_newValue v_newLeast v_newMost v_newFirst v_newNext v_newMany v_newPart v_newBegin v_newEnd v_rowFirst v_rowLast v_rowMany (by omega) (by omega) (by omega) (by omega) (by omega) (by omega) (by omega) (by omega) (by omega) (by omega) (by omega) (by omega) (by omega) (by omega) (by omega) (by omega) (by omega) (qp2_mono b1 (by omega) (by omega)) (qp2_mono b2 (by omega) (by omega)) (rp_mono b3 (by omega) (by omega)) (rp_mono b4 (by omega) (by omega)) (qp2_mono b1 (by omega) (by omega)) (qp2_mono b2 (by omega) (by omega)) (by exact Or.inl (by omega))
  refine ⟨fun c3 => ?_, fun c3 => ?_⟩
  · have f4 : p1.toInt = 42 := i_eq (a := p1.toInt) (b := 42) rfl rfl c3
    exact j_36  
  · have f5 : p1.toInt ≠ 42 := i_ne (a := p1.toInt) (b := 42) rfl rfl c3
    refine ⟨fun c9 => ?_, fun c9 => ?_⟩
    · have f6 : p1.toInt = 43 := i_eq (a := p1.toInt) (b := 43) rfl rfl c9
      exact j_36  
    · have f7 : p1.toInt ≠ 43 := i_ne (a := p1.toInt) (b := 43) rfl rfl c9
      refine ⟨fun c15 => ?_, fun c15 => ?_⟩
      · have f8 : p1.toInt = 63 := i_eq (a := p1.toInt) (b := 63) rfl rfl c15
        exact j_36  
      · have f9 : p1.toInt ≠ 63 := i_ne (a := p1.toInt) (b := 63) rfl rfl c15
        refine ⟨fun c21 => ?_, fun c21 => ?_⟩
        · have f10 : p1.toInt = 123 := i_eq (a := p1.toInt) (b := 123) rfl rfl c21
          exact j_36  
        · have f11 : p1.toInt ≠ 123 := i_ne (a := p1.toInt) (b := 123) rfl rfl c21
          refine ⟨fun c27 => ?_, fun c27 => ?_⟩
          · have f12 : p1.toInt = 125 := i_eq (a := p1.toInt) (b := 125) rfl rfl c27
            exact j_36  
          · have f13 : p1.toInt ≠ 125 := i_ne (a := p1.toInt) (b := 125) rfl rfl c27
            refine ⟨fun c33 => ?_, fun c33 => ?_⟩
            · have f14 : p1.toInt ≠ 93 := i_ne (a := p1.toInt) (b := 93) rfl rfl c33
              refine ok_X12_countItem (by omega) (by omega) (by omega) (fun r51_0 r51_1 r51_2 f15 f16 f17 f18 => ?_)
              refine ⟨fun c58 => ?_, fun c58 => ?_⟩
              · have f19 : r51_0.toInt ≤ 0 := i_le (a := r51_0.toInt) (b := 0) rfl rfl c58
                have j_154 : ∀ (l2_154 : Int32) (v_newNodes_154 : Int32) (v_newParts_154 : Int32) (v_fault_154 : Int32) (v_faultAt_154 : Int32) (v_at_154 : Int32) (v_memberValue_154 : Int32) (v_memberEnd_154 : Int32) (v_newSort_154 : Nat → Int32) (v_newValue_154 : Nat → Int32) (v_newLeast_154 : Nat → Int32) (v_newMost_154 : Nat → Int32) (v_newFirst_154 : Nat → Int32) (v_newNext_154 : Nat → Int32) (v_newMany_154 : Nat → Int32) (v_newPart_154 : Nat → Int32) (v_newBegin_154 : Nat → Int32) (v_newEnd_154 : Nat → Int32), l2_154.toInt = v_newNodes.toInt → v_newNodes_154.toInt = v_newNodes.toInt + 1 → v_newParts.toInt ≤ v_newParts_154.toInt → v_fault.toInt ≤ v_fault_154.toInt → v_at.toInt ≤ v_at_154.toInt → v_at.toInt + 1 ≤ v_at_154.toInt → ((1 ≤ v_fault_154.toInt) ∨ (v_at_154.toInt ≤ v_taped.toInt)) → v_at_154.toInt ≤ 250 → 2 * v_at.toInt + v_newParts_154.toInt ≤ 2 * v_at_154.toInt + v_newParts.toInt → v_newParts_154.toInt ≤ 419 → v_at_154.toInt ≤ 225 → (zRP v_fault_154.toInt v_newSort_154 v_newValue_154 v_newLeast_154 v_newMost_154 v_newFirst_154 v_newNext_154 v_newMany_154 v_newPart_154 v_newBegin_154 v_newEnd_154 v_rowFirst v_rowLast v_rowMany v_rowsFirst v_rowsLast v_rowsMany v_groupSort v_groupValue v_depth.toInt l2_154.toInt v_newNodes_154.toInt v_newParts_154.toInt v_newCaptures.toInt v_items.toInt v_at_154.toInt (16 * v_at_154.toInt)) → w_X12_readOne_154 v_taped v_depth v_tape Q l2_154 v_newNodes_154 v_newParts_154 v_fault_154 v_faultAt_154 v_at_154 r51_2 v_memberValue_154 v_memberEnd_154 v_loopLeast v_loopMost v_newSort_154 v_newValue_154 v_newLeast_154 v_newMost_154 v_newFirst_154 v_newNext_154 v_newMany_154 v_newPart_154 v_newBegin_154 v_newEnd_154 v_rowFirst v_rowLast v_rowMany := by
                  intro l2_154 v_newNodes_154 v_newParts_154 v_fault_154 v_faultAt_154 v_at_154 v_memberValue_154 v_memberEnd_154 v_newSort_154 v_newValue_154 v_newLeast_154 v_newMost_154 v_newFirst_154 v_newNext_154 v_newMany_154 v_newPart_154 v_newBegin_154 v_newEnd_154 f20 f21 f22 f23 f24 f25 f26 f27 f28 f29 f30 u154_0
                  unfold w_X12_readOne_154
                  refine ok_X12_looped (v_newBegin := v_newBegin_154) (v_newEnd := v_newEnd_154) (v_rowFirst := v_rowFirst) (v_rowLast := v_rowLast) (v_rowMany := v_rowMany) (v_rowsFirst := v_rowsFirst) (v_rowsLast := v_rowsLast) (v_rowsMany := v_rowsMany) (v_groupSort := v_groupSort) (v_groupValue := v_groupValue) (v_newParts := v_newParts_154) (v_newCaptures := v_newCaptures) (v_depth := v_depth) (gi9 := _) (ga9 := _) (gw9 := _) (by omega) (by omega) (by omega) (by omega) (by omega) (by omega) (by omega) (by omega) (by omega) (by omega) (by omega) (by omega) (by omega) (rp_mono b0 (by omega) (by omega)) (by first | assumption | omega) (by first | assumption | omega) (by first | assumption | omega) (by first | assumption | omega) (fun r157 r157_0 r157_1 r157_2 r157_3 r157_4 r157_5 r157_6 r157_7 r157_8 r157_9 r157_10 r157_11 r157_12 r157_13 r157_14 f31 f32 f33 f34 f35 f36 f37 f38 f39 f40 f41 f42 f43 f44 f45 u157_0 => ?_)
                  refine ok_X12_addNode (v_newSort := r157_7) (v_newValue := r157_8) (v_newLeast := r157_9) (v_newMost := r157_10) (v_newFirst := r157_11) (v_newMany := r157_13) (v_newPart := r157_14) (v_newBegin := v_newBegin_154) (v_newEnd := v_newEnd_154) (v_rowsFirst := v_rowsFirst) (v_rowsLast := v_rowsLast) (v_rowsMany := v_rowsMany) (v_groupSort := v_groupSort) (v_groupValue := v_groupValue) (v_fault := r157_1) (v_newNodes := r157_0) (v_newParts := v_newParts_154) (v_newCaptures := v_newCaptures) (gi9 := _) (ga9 := _) (gw9 := _) (by omega) (by omega) (by omega) (by omega) (qp2_mono b1 (by omega) (by omega)) (qp2_mono b2 (by omega) (by omega)) (rp_mono b3 (by omega) (by omega)) (rp_mono b4 (by omega) (by omega)) (by first | assumption | omega) (by first | assumption | omega) (fun r160_0 r160_1 r160_2 r160_3 h46 h47 h48 h49 h50 h51 u160_0 => ?_)
                  exact hq r157_0 v_newParts_154 r157_1 r157_2 r157_3 r157_4 v_memberValue_154 v_memberEnd_154 r157_5 r157_6 r157_7 r157_8 r157_9 r157_10 r157_11 r160_0 r157_13 r157_14 v_newBegin_154 v_newEnd_154 r160_1 r160_2 r160_3 (by omega) (by omega) (by omega) (by omega) (by omega) (by omega) (by omega) (by omega) (by omega) (by omega) (by omega) (by omega) (by omega) (by omega) (by omega) (by omega) (by omega) (qp2_mono h50 (by omega) (by omega)) (qp2_mono h51 (by omega) (by omega)) (rp_mono h47 (by omega) (by omega)) (rp_mono h49 (by omega) (by omega)) (qp2_mono h46 (by omega) (by omega)) (qp2_mono h48 (by omega) (by omega)) (by assumption)
                refine ⟨fun c67 => ?_, fun c67 => ?_⟩
                · have f52 : p1.toInt ≠ 92 := i_ne (a := p1.toInt) (b := 92) rfl rfl c67
                  refine ⟨fun c81 => ?_, fun c81 => ?_⟩
                  · have f53 : p1.toInt ≠ 91 := i_ne (a := p1.toInt) (b := 91) rfl rfl c81
                    intro x98 ex98
                    have f54 : x98.toInt = v_at.toInt + 1 := i_add (a := v_at.toInt) (b := 1) ex98 rfl rfl (by omega) (by omega)
                    have j_153 : ∀ (s0_153 : Int32) (v_newNodes_153 : Int32) (v_newSort_153 : Nat → Int32) (v_newValue_153 : Nat → Int32) (v_newLeast_153 : Nat → Int32) (v_newMost_153 : Nat → Int32) (v_newFirst_153 : Nat → Int32) (v_newNext_153 : Nat → Int32) (v_newMany_153 : Nat → Int32) (v_newPart_153 : Nat → Int32), s0_153.toInt = v_newNodes.toInt → v_newNodes_153.toInt = v_newNodes.toInt + 1 → (zRP r51_0.toInt v_newSort_153 v_newValue_153 v_newLeast_153 v_newMost_153 v_newFirst_153 v_newNext_153 v_newMany_153 v_newPart_153 v_newBegin v_newEnd v_rowFirst v_rowLast v_rowMany v_rowsFirst v_rowsLast v_rowsMany v_groupSort v_groupValue v_depth.toInt s0_153.toInt v_newNodes_153.toInt v_newParts.toInt v_newCaptures.toInt v_items.toInt x98.toInt (16 * x98.toInt)) → w_X12_readOne_153 v_taped v_depth v_tape Q s0_153 v_newNodes_153 v_newParts r51_0 r51_1 x98 r51_2 v_memberValue v_memberEnd v_loopLeast v_loopMost v_newSort_153 v_newValue_153 v_newLeast_153 v_newMost_153 v_newFirst_153 v_newNext_153 v_newMany_153 v_newPart_153 v_newBegin v_newEnd v_rowFirst v_rowLast v_rowMany := by
                      intro s0_153 v_newNodes_153 v_newSort_153 v_newValue_153 v_newLeast_153 v_newMost_153 v_newFirst_153 v_newNext_153 v_newMany_153 v_newPart_153 f55 f56 u153_0
                      unfold w_X12_readOne_153
                      exact j_154 s0_153 v_newNodes_153 v_newParts r51_0 r51_1 x98 v_memberValue v_memberEnd v_newSort_153 v_newValue_153 v_newLeast_153 v_newMost_153 v_newFirst_153 v_newNext_153 v_newMany_153 v_newPart_153 v_newBegin v_newEnd (by omega) (by omega) (by omega) (by omega) (by omega) (by omega) (by omega) (by omega) (by omega) (by omega) (by omega) (by assumption)
                    refine ⟨fun c105 => ?_, fun c105 => ?_⟩
                    · have f57 : p1.toInt ≠ 46 := i_ne (a := p1.toInt) (b := 46) rfl rfl c105
                      refine ⟨fun c120 => ?_, fun c120 => ?_⟩
                      · have f58 : p1.toInt ≠ 94 := i_ne (a := p1.toInt) (b := 94) rfl rfl c120
                        refine ⟨fun c135 => ?_, fun c135 => ?_⟩
                        · have f59 : p1.toInt ≠ 36 := i_ne (a := p1.toInt) (b := 36) rfl rfl c135
                          refine ok_X12_made (by omega) (by omega) (fun r150 r150_0 r150_1 r150_2 r150_3 r150_4 r150_5 r150_6 r150_7 r150_8 f60 f61 u150_0 => ?_)
                          exact j_153 r150 r150_0 r150_1 r150_2 r150_3 r150_4 r150_5 r150_6 r150_7 r150_8 (by omega) (by omega) (by exact zRP_leaf u0 (by assumption) (by omega) (by omega) (by omega) (by omega) (by omega) (by omega) (by omega) (by omega))
                        · have f62 : p1.toInt = 36 := i_eq (a := p1.toInt) (b := 36) rfl rfl c135
                          refine ok_X12_made (by omega) (by omega) (fun r141 r141_0 r141_1 r141_2 r141_3 r141_4 r141_5 r141_6 r141_7 r141_8 f63 f64 u141_0 => ?_)
                          exact j_153 r141 r141_0 r141_1 r141_2 r141_3 r141_4 r141_5 r141_6 r141_7 r141_8 (by omega) (by omega) (by exact zRP_leaf u0 (by assumption) (by omega) (by omega) (by omega) (by omega) (by omega) (by omega) (by omega) (by omega))
                      · have f65 : p1.toInt = 94 := i_eq (a := p1.toInt) (b := 94) rfl rfl c120
                        refine ok_X12_made (by omega) (by omega) (fun r126 r126_0 r126_1 r126_2 r126_3 r126_4 r126_5 r126_6 r126_7 r126_8 f66 f67 u126_0 => ?_)
                        exact j_153 r126 r126_0 r126_1 r126_2 r126_3 r126_4 r126_5 r126_6 r126_7 r126_8 (by omega) (by omega) (by exact zRP_leaf u0 (by assumption) (by omega) (by omega) (by omega) (by omega) (by omega) (by omega) (by omega) (by omega))
                    · have f68 : p1.toInt = 46 := i_eq (a := p1.toInt) (b := 46) rfl rfl c105
                      refine ok_X12_made (by omega) (by omega) (fun r111 r111_0 r111_1 r111_2 r111_3 r111_4 r111_5 r111_6 r111_7 r111_8 f69 f70 u111_0 => ?_)
                      exact j_153 r111 r111_0 r111_1 r111_2 r111_3 r111_4 r111_5 r111_6 r111_7 r111_8 (by omega) (by omega) (by exact zRP_leaf u0 (by assumption) (by omega) (by omega) (by omega) (by omega) (by omega) (by omega) (by omega) (by omega))
                  · have f71 : p1.toInt = 91 := i_eq (a := p1.toInt) (b := 91) rfl rfl c81
                    refine ok_X12_readSet (v_rowFirst := v_rowFirst) (v_rowLast := v_rowLast) (v_rowMany := v_rowMany) (v_rowsFirst := v_rowsFirst) (v_rowsLast := v_rowsLast) (v_rowsMany := v_rowsMany) (v_groupSort := v_groupSort) (v_groupValue := v_groupValue) (v_newCaptures := v_newCaptures) (v_depth := v_depth) (gi9 := v_items.toInt) (by omega) (by omega) (by omega) (by omega) (by omega) (by omega) (by omega) (by omega) (by omega) (rp_mono b0 (by omega) (by omega)) (by exact zRS_mono u0 (by omega) (by omega) (by omega) (by omega)) (fun r85 r85_0 r85_1 r85_2 r85_3 r85_4 r85_5 r85_6 r85_7 r85_8 r85_9 r85_10 r85_11 r85_12 r85_13 r85_14 r85_15 r85_16 f72 f73 f74 f75 f76 f77 f78 f79 f80 f81 f82 f83 f84 f85 f86 f87 f88 f89 f90 f91 u85_0 => ?_)
                    exact j_154 r85 r85_0 r85_1 r85_2 r85_3 r85_4 r85_5 r85_6 r85_7 r85_8 r85_9 r85_10 r85_11 r85_12 r85_13 r85_14 r85_15 r85_16 (by omega) (by omega) (by omega) (by omega) (by omega) (by omega) (by omega) (by omega) (by omega) (by omega) (by omega) (by assumption)
                · have f92 : p1.toInt = 92 := i_eq (a := p1.toInt) (b := 92) rfl rfl c67
                  refine ok_X12_escaped (v_rowFirst := v_rowFirst) (v_rowLast := v_rowLast) (v_rowMany := v_rowMany) (v_rowsFirst := v_rowsFirst) (v_rowsLast := v_rowsLast) (v_rowsMany := v_rowsMany) (v_groupSort := v_groupSort) (v_groupValue := v_groupValue) (v_depth := v_depth) (gi9 := v_items.toInt) (by omega) (by omega) (by omega) (by omega) (by omega) (by omega) (by omega) (by omega) (by omega) (by omega) (by omega) (rp_mono b0 (by omega) (by omega)) (by exact zRS_mono u0 (by omega) (by omega) (by omega) (by omega)) (fun r71 r71_0 r71_1 r71_2 r71_3 r71_4 r71_5 r71_6 r71_7 r71_8 r71_9 r71_10 r71_11 r71_12 r71_13 r71_14 f93 f94 f95 f96 f97 f98 f99 f100 f101 f102 u71_0 => ?_)
                  exact j_154 r71 r71_0 r71_1 r71_2 r71_3 r71_4 v_memberValue v_memberEnd r71_5 r71_6 r71_7 r71_8 r71_9 r71_10 r71_11 r71_12 r71_13 r71_14 (by omega) (by omega) (by omega) (by omega) (by omega) (by omega) (by omega) (by omega) (by omega) (by omega) (by omega) (by assumption)
              · have f103 : 0 < r51_0.toInt := i_nle (a := r51_0.toInt) (b := 0) rfl rfl c58
                exact hq v_newNodes v_newParts r51_0 r51_1 v_at r51_2 v_memberValue v_memberEnd v_loopLeast v_loopMost v_newSort v_newValue v_newLeast v_newMost v_newFirst v_newNext v_newMany v_newPart v_newBegin v_newEnd v_rowFirst v_rowLast v_rowMany (by omega) (by omega) (by omega) (by omega) (by omega) (by omega) (by omega) (by omega) (by omega) (by omega) (by omega) (by omega) (by omega) (by omega) (by omega) (by omega) (by omega) (qp2_mono b1 (by omega) (by omega)) (qp2_mono b2 (by omega) (by omega)) (rp_mono b3 (by omega) (by omega)) (rp_mono b4 (by omega) (by omega)) (qp2_mono b1 (by omega) (by omega)) (qp2_mono b2 (by omega) (by omega)) (by exact Or.inl (by omega))
            · have f104 : p1.toInt = 93 := i_eq (a := p1.toInt) (b := 93) rfl rfl c33
              exact j_36  
