set_option maxHeartbeats 4000000 in
theorem ok_X12_closeGroup {v_taped : Int32} {v_newNodes : Int32} {v_fault : Int32} {v_faultAt : Int32} {v_at : Int32} {v_items : Int32} {v_depth : Int32} {v_loopLeast : Int32} {v_loopMost : Int32} {v_tape : Nat → Int32} {v_newSort : Nat → Int32} {v_newValue : Nat → Int32} {v_newLeast : Nat → Int32} {v_newMost : Nat → Int32} {v_newFirst : Nat → Int32} {v_newNext : Nat → Int32} {v_newMany : Nat → Int32} {v_newPart : Nat → Int32} {v_groupSort : Nat → Int32} {v_groupValue : Nat → Int32} {v_rowFirst : Nat → Int32} {v_rowLast : Nat → Int32} {v_rowMany : Nat → Int32} {v_rowsFirst : Nat → Int32} {v_rowsLast : Nat → Int32} {v_rowsMany : Nat → Int32} {v_newBegin : Nat → Int32} {v_newEnd : Nat → Int32} {v_newParts : Int32} {v_newCaptures : Int32} {Q : Int32 → Int32 → Int32 → Int32 → Int32 → Int32 → Int32 → Int32 → (Nat → Int32) → (Nat → Int32) → (Nat → Int32) → (Nat → Int32) → (Nat → Int32) → (Nat → Int32) → (Nat → Int32) → (Nat → Int32) → (Nat → Int32) → (Nat → Int32) → (Nat → Int32) → (Nat → Int32) → (Nat → Int32) → (Nat → Int32) → Prop} (a0 : 0 ≤ v_taped.toInt) (a1 : v_taped.toInt ≤ 200) (a2 : v_at.toInt + 1 ≤ v_taped.toInt) (a3 : 0 ≤ v_fault.toInt) (a4 : 0 ≤ v_at.toInt) (a5 : v_at.toInt ≤ 900) (a6 : 0 ≤ v_depth.toInt) (a7 : v_depth.toInt ≤ 9) (a8 : 0 ≤ v_newNodes.toInt) (a9 : v_newNodes.toInt ≤ 250) (a10 : 0 ≤ v_items.toInt) (a11 : v_items.toInt ≤ 100) (b0 : rp (fun k v => 32 ≤ v ∧ v ≤ 126) v_tape 0 v_taped.toInt) (b1 : qp2 (fun k m l => (m = 0) ∨ (0 ≤ l ∧ l ≤ 259)) v_rowMany v_rowFirst 0 12) (b2 : qp2 (fun k m l => (m = 0) ∨ (0 ≤ l ∧ l ≤ 259)) v_rowsMany v_rowsFirst 0 12) (b3 : qp2 (fun k m l => (m = 0) ∨ (0 ≤ l ∧ l ≤ 259)) v_rowMany v_rowLast 0 12) (b4 : qp2 (fun k m l => (m = 0) ∨ (0 ≤ l ∧ l ≤ 259)) v_rowsMany v_rowsLast 0 12) (b5 : rp (fun k v => -1 ≤ v ∧ v ≤ 259) v_rowFirst 0 12) (b6 : rp (fun k v => -1 ≤ v ∧ v ≤ 259) v_rowLast 0 12) (b7 : rp (fun k v => -1 ≤ v ∧ v ≤ 259) v_rowsFirst 0 12) (b8 : rp (fun k v => -1 ≤ v ∧ v ≤ 259) v_rowsLast 0 12) (u0 : zRS v_fault.toInt v_newSort v_newValue v_newLeast v_newMost v_newFirst v_newNext v_newMany v_newPart v_newBegin v_newEnd v_rowFirst v_rowLast v_rowMany v_rowsFirst v_rowsLast v_rowsMany v_groupSort v_groupValue v_depth.toInt v_newNodes.toInt v_newParts.toInt v_newCaptures.toInt v_items.toInt v_at.toInt (16 * v_at.toInt)) (u1 : v_newCaptures.toInt ≤ 9) (hq : ∀ (ov_newNodes : Int32) (ov_fault : Int32) (ov_faultAt : Int32) (ov_at : Int32) (ov_items : Int32) (ov_depth : Int32) (ov_loopLeast : Int32) (ov_loopMost : Int32) (ov_newSort : Nat → Int32) (ov_newValue : Nat → Int32) (ov_newLeast : Nat → Int32) (ov_newMost : Nat → Int32) (ov_newFirst : Nat → Int32) (ov_newNext : Nat → Int32) (ov_newMany : Nat → Int32) (ov_newPart : Nat → Int32) (ov_rowFirst : Nat → Int32) (ov_rowLast : Nat → Int32) (ov_rowMany : Nat → Int32) (ov_rowsFirst : Nat → Int32) (ov_rowsLast : Nat → Int32) (ov_rowsMany : Nat → Int32), v_fault.toInt ≤ ov_fault.toInt → v_newNodes.toInt ≤ ov_newNodes.toInt → v_at.toInt ≤ ov_at.toInt → v_items.toInt ≤ ov_items.toInt → ov_depth.toInt ≤ v_depth.toInt → ov_newNodes.toInt ≤ 255 → ov_at.toInt ≤ 210 → ov_items.toInt ≤ 101 → 0 ≤ ov_depth.toInt → ov_depth.toInt ≤ 8 → ((1 ≤ ov_fault.toInt) ∨ (ov_at.toInt ≤ v_taped.toInt)) → ((v_at.toInt + 1 ≤ ov_at.toInt) ∨ (1 ≤ ov_fault.toInt)) → ov_at.toInt ≤ v_at.toInt + 11 → 2 * ov_depth.toInt + ov_newNodes.toInt + v_at.toInt ≤ ov_at.toInt + 2 * v_depth.toInt + v_newNodes.toInt → ov_newNodes.toInt ≤ v_newNodes.toInt + 4 → ov_items.toInt ≤ v_items.toInt + 1 → ((1 ≤ ov_fault.toInt) ∨ (ov_items.toInt ≤ 100)) → qp2 (fun k m l => (m = 0) ∨ (0 ≤ l ∧ l ≤ 259)) ov_rowMany ov_rowFirst 0 12 → qp2 (fun k m l => (m = 0) ∨ (0 ≤ l ∧ l ≤ 259)) ov_rowsMany ov_rowsFirst 0 12 → qp2 (fun k m l => (m = 0) ∨ (0 ≤ l ∧ l ≤ 259)) ov_rowMany ov_rowLast 0 12 → qp2 (fun k m l => (m = 0) ∨ (0 ≤ l ∧ l ≤ 259)) ov_rowsMany ov_rowsLast 0 12 → rp (fun k v => -1 ≤ v ∧ v ≤ 259) ov_rowFirst 0 12 → rp (fun k v => -1 ≤ v ∧ v ≤ 259) ov_rowLast 0 12 → rp (fun k v => -1 ≤ v ∧ v ≤ 259) ov_rowsFirst 0 12 → rp (fun k v => -1 ≤ v ∧ v ≤ 259) ov_rowsLast 0 12 → qp2 (fun k m l => (m = 0) ∨ (0 ≤ l ∧ l ≤ 259)) v_rowsMany ov_rowsFirst 0 12 → qp2 (fun k m l => (m = 0) ∨ (0 ≤ l ∧ l ≤ 259)) v_rowsMany ov_rowsLast 0 12 → (zRS ov_fault.toInt ov_newSort ov_newValue ov_newLeast ov_newMost ov_newFirst ov_newNext ov_newMany ov_newPart v_newBegin v_newEnd ov_rowFirst ov_rowLast ov_rowMany ov_rowsFirst ov_rowsLast ov_rowsMany v_groupSort v_groupValue ov_depth.toInt ov_newNodes.toInt v_newParts.toInt v_newCaptures.toInt ov_items.toInt ov_at.toInt (16 * ov_at.toInt)) → Q ov_newNodes ov_fault ov_faultAt ov_at ov_items ov_depth ov_loopLeast ov_loopMost ov_newSort ov_newValue ov_newLeast ov_newMost ov_newFirst ov_newNext ov_newMany ov_newPart ov_rowFirst ov_rowLast ov_rowMany ov_rowsFirst ov_rowsLast ov_rowsMany) : w_X12_closeGroup v_taped v_newNodes v_fault v_faultAt v_at v_items v_depth v_loopLeast v_loopMost v_tape v_newSort v_newValue v_newLeast v_newMost v_newFirst v_newNext v_newMany v_newPart v_groupSort v_groupValue v_rowFirst v_rowLast v_rowMany v_rowsFirst v_rowsLast v_rowsMany Q := by
  have q_t : (bz true).toInt = 1 := rfl
  have q_f : (bz false).toInt = 0 := rfl
  have q_1 : (1 : Int32).toInt = 1 := rfl
  unfold w_X12_closeGroup
  refine ⟨fun c4 => ?_, fun c4 => ?_⟩
  · have f1 : v_depth.toInt ≠ 0 := i_ne (a := v_depth.toInt) (b := 0) rfl rfl c4
    refine ok_X12_closeChoice (v_newBegin := v_newBegin) (v_newEnd := v_newEnd) (v_groupSort := v_groupSort) (v_groupValue := v_groupValue) (v_fault := v_fault) (v_newParts := v_newParts) (v_newCaptures := v_newCaptures) (gi9 := _) (ga9 := _) (gw9 := _) (by omega) (by omega) (by omega) (by omega) (qp2_mono b1 (by omega) (by omega)) (qp2_mono b2 (by omega) (by omega)) (qp2_mono b3 (by omega) (by omega)) (qp2_mono b4 (by omega) (by omega)) (rp_mono b5 (by omega) (by omega)) (rp_mono b6 (by omega) (by omega)) (rp_mono b7 (by omega) (by omega)) (rp_mono b8 (by omega) (by omega)) (by first | assumption | omega) (fun r18 r18_0 r18_1 r18_2 r18_3 r18_4 r18_5 r18_6 r18_7 r18_8 r18_9 r18_10 r18_11 r18_12 r18_13 r18_14 f2 f3 f4 h5 h6 h7 h8 h9 h10 h11 h12 h13 h14 h15 h16 u18_0 => ?_)
    refine ⟨i_in (by omega) (by omega), ?_⟩
    intro x30 ex30
    have j_56 : ∀ (s0_56 : Int32) (v_newNodes_56 : Int32) (v_newSort_56 : Nat → Int32) (v_newValue_56 : Nat → Int32) (v_newLeast_56 : Nat → Int32) (v_newMost_56 : Nat → Int32) (v_newFirst_56 : Nat → Int32) (v_newNext_56 : Nat → Int32) (v_newMany_56 : Nat → Int32) (v_newPart_56 : Nat → Int32), v_newNodes.toInt ≤ v_newNodes_56.toInt → v_newNodes_56.toInt ≤ v_newNodes.toInt + 4 → ((s0_56.toInt = r18_0.toInt ∧ v_newNodes_56.toInt = r18_0.toInt + 1) ∨ (s0_56.toInt = r18.toInt ∧ v_newNodes_56.toInt = r18_0.toInt)) → (zRP v_fault.toInt v_newSort_56 v_newValue_56 v_newLeast_56 v_newMost_56 v_newFirst_56 v_newNext_56 v_newMany_56 v_newPart_56 v_newBegin v_newEnd r18_9 r18_10 r18_11 r18_12 r18_13 r18_14 v_groupSort v_groupValue (v_depth.toInt - 1) s0_56.toInt v_newNodes_56.toInt v_newParts.toInt v_newCaptures.toInt (v_items.toInt - 1) v_at.toInt (16 * v_at.toInt + 12 + 12 - 12)) → w_X12_closeGroup_56 v_taped v_tape Q s0_56 v_newNodes_56 v_fault v_faultAt v_at v_items v_depth v_loopLeast v_loopMost v_newSort_56 v_newValue_56 v_newLeast_56 v_newMost_56 v_newFirst_56 v_newNext_56 v_newMany_56 v_newPart_56 r18_9 r18_10 r18_11 r18_12 r18_13 r18_14 := by
      intro s0_56 v_newNodes_56 v_newSort_56 v_newValue_56 v_newLeast_56 v_newMost_56 v_newFirst_56 v_newNext_56 v_newMany_56 v_newPart_56 f17 f18 f19 u56_0
      unfold w_X12_closeGroup_56
      intro x63 ex63
      have f20 : x63.toInt = v_depth.toInt - 1 := i_sub (a := v_depth.toInt) (b := 1) ex63 rfl rfl (by omega) (by omega)
      intro x73 ex73
      have f21 : x73.toInt = v_at.toInt + 1 := i_add (a := v_at.toInt) (b := 1) ex73 rfl rfl (by omega) (by omega)
      refine ok_X12_looped (v_newBegin := v_newBegin) (v_newEnd := v_newEnd) (v_rowFirst := r18_9) (v_rowLast := r18_10) (v_rowMany := r18_11) (v_rowsFirst := r18_12) (v_rowsLast := r18_13) (v_rowsMany := r18_14) (v_groupSort := v_groupSort) (v_groupValue := v_groupValue) (v_newParts := v_newParts) (v_newCaptures := v_newCaptures) (v_depth := x63) (gi9 := _) (ga9 := _) (gw9 := _) (by omega) (by omega) (by omega) (by omega) (by omega) (by omega) (by omega) (by omega) (by omega) (by omega) (by omega) (by omega) (by omega) (rp_mono b0 (by omega) (by omega)) (by have hd9 : x63.toInt = v_depth.toInt - 1 := (by omega); rw [hd9]; exact u56_0) (by first | assumption | omega) (by first | assumption | omega) (by first | assumption | omega) (fun r80 r80_0 r80_1 r80_2 r80_3 r80_4 r80_5 r80_6 r80_7 r80_8 r80_9 r80_10 r80_11 r80_12 r80_13 r80_14 f22 f23 f24 f25 f26 f27 f28 f29 f30 f31 f32 f33 f34 f35 f36 u80_0 => ?_)
      refine ok_X12_addNode (v_newSort := r80_7) (v_newValue := r80_8) (v_newLeast := r80_9) (v_newMost := r80_10) (v_newFirst := r80_11) (v_newMany := r80_13) (v_newPart := r80_14) (v_newBegin := v_newBegin) (v_newEnd := v_newEnd) (v_rowsFirst := r18_12) (v_rowsLast := r18_13) (v_rowsMany := r18_14) (v_groupSort := v_groupSort) (v_groupValue := v_groupValue) (v_fault := r80_1) (v_newNodes := r80_0) (v_newParts := v_newParts) (v_newCaptures := v_newCaptures) (gi9 := _) (ga9 := _) (gw9 := _) (by omega) (by omega) (by omega) (by omega) (qp2_mono h13 (by omega) (by omega)) (qp2_mono h14 (by omega) (by omega)) (rp_mono h11 (by omega) (by omega)) (rp_mono h12 (by omega) (by omega)) (by first | assumption | omega) (by first | assumption | omega) (fun r83_0 r83_1 r83_2 r83_3 h37 h38 h39 h40 h41 h42 u83_0 => ?_)
      exact hq r80_0 r80_1 r80_2 r80_3 r80_4 x63 r80_5 r80_6 r80_7 r80_8 r80_9 r80_10 r80_11 r83_0 r80_13 r80_14 r83_1 r83_2 r83_3 r18_12 r18_13 r18_14 (by omega) (by omega) (by omega) (by omega) (by omega) (by omega) (by omega) (by omega) (by omega) (by omega) (by omega) (by omega) (by omega) (by omega) (by omega) (by omega) (by omega) (qp2_mono h41 (by omega) (by omega)) (qp2_mono h9 (by omega) (by omega)) (qp2_mono h42 (by omega) (by omega)) (qp2_mono h10 (by omega) (by omega)) (rp_mono h38 (by omega) (by omega)) (rp_mono h40 (by omega) (by omega)) (rp_mono h6 (by omega) (by omega)) (rp_mono h8 (by omega) (by omega)) (qp2_mono h5 (by omega) (by omega)) (qp2_mono h7 (by omega) (by omega)) (by assumption)
    refine ⟨fun c34 => ?_, fun c34 => ?_⟩
    · have f43 : x30.toInt ≠ 5 := i_ne (a := x30.toInt) (b := 5) rfl rfl c34
      refine ⟨i_in (by omega) (by omega), ?_⟩
      intro x51 ex51
      refine ok_X12_holding (by omega) (by omega) (fun r53 r53_0 r53_1 r53_2 r53_3 r53_4 r53_5 r53_6 r53_7 r53_8 f44 f45 u53_0 => ?_)
      exact j_56 r53 r53_0 r53_1 r53_2 r53_3 r53_4 r53_5 r53_6 r53_7 r53_8 (by omega) (by omega) (by omega) (by first | exact zRP_close0 (by assumption) (by assumption) (by omega) (by omega) (by omega) | exact zRP_close (by assumption) (by assumption) (by assumption) (by assumption) (by omega) (by omega) (by omega) (by omega) (by omega) (by omega) (by omega))
    · have f46 : x30.toInt = 5 := i_eq (a := x30.toInt) (b := 5) rfl rfl c34
      exact j_56 r18 r18_0 r18_1 r18_2 r18_3 r18_4 r18_5 r18_6 r18_7 r18_8 (by omega) (by omega) (by omega) (by first | exact zRP_close0 (by assumption) (by assumption) (by omega) (by omega) (by omega) | exact zRP_close (by assumption) (by assumption) (by assumption) (by assumption) (by omega) (by omega) (by omega) (by omega) (by omega) (by omega) (by omega))
  · have f47 : v_depth.toInt = 0 := i_eq (a := v_depth.toInt) (b := 0) rfl rfl c4
    refine ok_X12_fail (by omega) (by omega) (by omega) (fun r13_0 r13_1 f48 f49 f50 => ?_)
    exact hq v_newNodes r13_0 r13_1 v_at v_items v_depth v_loopLeast v_loopMost v_newSort v_newValue v_newLeast v_newMost v_newFirst v_newNext v_newMany v_newPart v_rowFirst v_rowLast v_rowMany v_rowsFirst v_rowsLast v_rowsMany (by omega) (by omega) (by omega) (by omega) (by omega) (by omega) (by omega) (by omega) (by omega) (by omega) (by omega) (by omega) (by omega) (by omega) (by omega) (by omega) (by omega) (qp2_mono b1 (by omega) (by omega)) (qp2_mono b2 (by omega) (by omega)) (qp2_mono b3 (by omega) (by omega)) (qp2_mono b4 (by omega) (by omega)) (rp_mono b5 (by omega) (by omega)) (rp_mono b6 (by omega) (by omega)) (rp_mono b7 (by omega) (by omega)) (rp_mono b8 (by omega) (by omega)) (qp2_mono b2 (by omega) (by omega)) (qp2_mono b4 (by omega) (by omega)) (by exact Or.inl (by omega))
set_option maxHeartbeats 4000000 in
theorem ok_X12_readOne {p1 : Int32} {v_taped : Int32} {v_newNodes : Int32} {v_newParts : Int32} {v_fault : Int32} {v_faultAt : Int32} {v_at : Int32} {v_items : Int32} {v_newCaptures : Int32} {v_depth : Int32} {v_memberValue : Int32} {v_memberEnd : Int32} {v_loopLeast : Int32} {v_loopMost : Int32} {v_tape : Nat → Int32} {v_newSort : Nat → Int32} {v_newValue : Nat → Int32} {v_newLeast : Nat → Int32} {v_newMost : Nat → Int32} {v_newFirst : Nat → Int32} {v_newNext : Nat → Int32} {v_newMany : Nat → Int32} {v_newPart : Nat → Int32} {v_newBegin : Nat → Int32} {v_newEnd : Nat → Int32} {v_newNames : Nat → Int32} {v_rowFirst : Nat → Int32} {v_rowLast : Nat → Int32} {v_rowMany : Nat → Int32} {v_rowsFirst : Nat → Int32} {v_rowsLast : Nat → Int32} {v_rowsMany : Nat → Int32} {v_groupSort : Nat → Int32} {v_groupValue : Nat → Int32} {Q : Int32 → Int32 → Int32 → Int32 → Int32 → Int32 → Int32 → Int32 → Int32 → Int32 → (Nat → Int32) → (Nat → Int32) → (Nat → Int32) → (Nat → Int32) → (Nat → Int32) → (Nat → Int32) → (Nat → Int32) → (Nat → Int32) → (Nat → Int32) → (Nat → Int32) → (Nat → Int32) → (Nat → Int32) → (Nat → Int32) → Prop} (a0 : 0 ≤ v_taped.toInt) (a1 : v_taped.toInt ≤ 200) (a2 : 32 ≤ p1.toInt) (a3 : p1.toInt ≤ 126) (a4 : v_fault.toInt = 0) (a5 : 0 ≤ v_at.toInt) (a6 : v_at.toInt + 1 ≤ v_taped.toInt) (a7 : 0 ≤ v_newNodes.toInt) (a8 : v_newNodes.toInt ≤ 250) (a9 : 0 ≤ v_newParts.toInt) (a10 : v_newParts.toInt ≤ 2 * v_at.toInt) (a11 : 0 ≤ v_newCaptures.toInt) (a12 : v_newCaptures.toInt ≤ 9) (a13 : 0 ≤ v_items.toInt) (a14 : v_items.toInt ≤ 100) (a15 : 0 ≤ v_depth.toInt) (a16 : v_depth.toInt ≤ 9) (b0 : rp (fun k v => 32 ≤ v ∧ v ≤ 126) v_tape 0 v_taped.toInt) (b1 : qp2 (fun k m l => (m = 0) ∨ (0 ≤ l ∧ l ≤ 259)) v_rowMany v_rowFirst 0 12) (b2 : qp2 (fun k m l => (m = 0) ∨ (0 ≤ l ∧ l ≤ 259)) v_rowMany v_rowLast 0 12) (b3 : rp (fun k v => -1 ≤ v ∧ v ≤ 259) v_rowFirst 0 12) (b4 : rp (fun k v => -1 ≤ v ∧ v ≤ 259) v_rowLast 0 12) (u0 : zRS v_fault.toInt v_newSort v_newValue v_newLeast v_newMost v_newFirst v_newNext v_newMany v_newPart v_newBegin v_newEnd v_rowFirst v_rowLast v_rowMany v_rowsFirst v_rowsLast v_rowsMany v_groupSort v_groupValue v_depth.toInt v_newNodes.toInt v_newParts.toInt v_newCaptures.toInt v_items.toInt v_at.toInt (16 * v_at.toInt)) (hq : ∀ (ov_newNodes : Int32) (ov_newParts : Int32) (ov_fault : Int32) (ov_faultAt : Int32) (ov_at : Int32) (ov_items : Int32) (ov_memberValue : Int32) (ov_memberEnd : Int32) (ov_loopLeast : Int32) (ov_loopMost : Int32) (ov_newSort : Nat → Int32) (ov_newValue : Nat → Int32) (ov_newLeast : Nat → Int32) (ov_newMost : Nat → Int32) (ov_newFirst : Nat → Int32) (ov_newNext : Nat → Int32) (ov_newMany : Nat → Int32) (ov_newPart : Nat → Int32) (ov_newBegin : Nat → Int32) (ov_newEnd : Nat → Int32) (ov_rowFirst : Nat → Int32) (ov_rowLast : Nat → Int32) (ov_rowMany : Nat → Int32), v_newNodes.toInt ≤ ov_newNodes.toInt → v_newParts.toInt ≤ ov_newParts.toInt → v_fault.toInt ≤ ov_fault.toInt → v_at.toInt ≤ ov_at.toInt → v_items.toInt ≤ ov_items.toInt → ov_newNodes.toInt ≤ 255 → ov_newParts.toInt ≤ 419 → ov_at.toInt ≤ 255 → ov_items.toInt ≤ 101 → ((1 ≤ ov_fault.toInt) ∨ (ov_at.toInt ≤ v_taped.toInt)) → ((1 ≤ ov_fault.toInt) ∨ (ov_items.toInt ≤ 100)) → ((v_at.toInt + 1 ≤ ov_at.toInt) ∨ (1 ≤ ov_fault.toInt)) → ov_at.toInt ≤ 250 → ov_newNodes.toInt + v_at.toInt ≤ ov_at.toInt + v_newNodes.toInt → ov_newNodes.toInt ≤ v_newNodes.toInt + 3 → ov_newParts.toInt + 2 * v_at.toInt ≤ 2 * ov_at.toInt + v_newParts.toInt → ov_items.toInt ≤ v_items.toInt + 2 → qp2 (fun k m l => (m = 0) ∨ (0 ≤ l ∧ l ≤ 259)) ov_rowMany ov_rowFirst 0 12 → qp2 (fun k m l => (m = 0) ∨ (0 ≤ l ∧ l ≤ 259)) ov_rowMany ov_rowLast 0 12 → rp (fun k v => -1 ≤ v ∧ v ≤ 259) ov_rowFirst 0 12 → rp (fun k v => -1 ≤ v ∧ v ≤ 259) ov_rowLast 0 12 → qp2 (fun k m l => (m = 0) ∨ (0 ≤ l ∧ l ≤ 259)) v_rowMany ov_rowFirst 0 12 → qp2 (fun k m l => (m = 0) ∨ (0 ≤ l ∧ l ≤ 259)) v_rowMany ov_rowLast 0 12 → (zRS ov_fault.toInt ov_newSort ov_newValue ov_newLeast ov_newMost ov_newFirst ov_newNext ov_newMany ov_newPart ov_newBegin ov_newEnd ov_rowFirst ov_rowLast ov_rowMany v_rowsFirst v_rowsLast v_rowsMany v_groupSort v_groupValue v_depth.toInt ov_newNodes.toInt ov_newParts.toInt v_newCaptures.toInt ov_items.toInt ov_at.toInt (16 * ov_at.toInt)) → Q ov_newNodes ov_newParts ov_fault ov_faultAt ov_at ov_items ov_memberValue ov_memberEnd ov_loopLeast ov_loopMost ov_newSort ov_newValue ov_newLeast ov_newMost ov_newFirst ov_newNext ov_newMany ov_newPart ov_newBegin ov_newEnd ov_rowFirst ov_rowLast ov_rowMany) : w_X12_readOne p1 v_taped v_newNodes v_newParts v_fault v_faultAt v_at v_items v_newCaptures v_depth v_memberValue v_memberEnd v_loopLeast v_loopMost v_tape v_newSort v_newValue v_newLeast v_newMost v_newFirst v_newNext v_newMany v_newPart v_newBegin v_newEnd v_newNames v_rowFirst v_rowLast v_rowMany Q := by
  have q_t : (bz true).toInt = 1 := rfl
  have q_f : (bz false).toInt = 0 := rfl
  have q_m1 : ((-1) : Int32).toInt = (-1) := rfl
  have q_0 : (0 : Int32).toInt = 0 := rfl
  have q_1 : (1 : Int32).toInt = 1 := rfl
  have q_3 : (3 : Int32).toInt = 3 := rfl
  unfold w_X12_readOne
  have j_36 : w_X12_readOne_36 Q v_newNodes v_newParts v_fault v_faultAt v_at v_items v_memberValue v_memberEnd v_loopLeast v_loopMost v_newSort v_newValue v_newLeast v_newMost v_newFirst v_newNext v_newMany v_newPart v_newBegin v_newEnd v_rowFirst v_rowLast v_rowMany := by
    unfold w_X12_readOne_36
    refine ok_X12_fail (by omega) (by omega) (by omega) (fun r42_0 r42_1 f1 f2 f3 => ?_)
    exact hq v_newNodes v_newParts r42_0 r42_1 v_at v_items v_memberValue v_memberEnd v_loopLeast v_loopMost v_newSort v_newValue v_newLeast v_newMost v_newFirst v_newNext v_newMany v_newPart v_newBegin v_newEnd v_rowFirst v_rowLast v_rowMany (by omega) (by omega) (by omega) (by omega) (by omega) (by omega) (by omega) (by omega) (by omega) (by omega) (by omega) (by omega) (by omega) (by omega) (by omega) (by omega) (by omega) (qp2_mono b1 (by omega) (by omega)) (qp2_mono b2 (by omega) (by omega)) (rp_mono b3 (by omega) (by omega)) (rp_mono b4 (by omega) (by omega)) (qp2_mono b1 (by omega) (by omega)) (qp2_mono b2 (by omega) (by omega)) (by exact Or.inl (by omega))
  refine ⟨fun c3 => ?_, fun c3 => ?_⟩
  · have f4 : p1.toInt = 42 := i_eq (a := p1.toInt) (b := 42) rfl rfl c3
    exact j_36  
  · have f5 : p1.toInt ≠ 42 := i_ne (a := p1.toInt) (b := 42) rfl rfl c3
    refine ⟨fun c9 => ?_, fun c9 => ?_⟩
    · have f6 : p1.toInt = 43 := i_eq (a := p1.toInt) (b := 43) rfl rfl c9
      exact j_36  
    · have f7 : p1.toInt ≠ 43 := i_ne (a := p1.toInt) (b := 43) rfl rfl c9
      refine ⟨fun c15 => ?_, fun c15 => ?_⟩
      · have f8 : p1.toInt = 63 := i_eq (a := p1.toInt) (b := 63) rfl rfl c15
        exact j_36  
      · have f9 : p1.toInt ≠ 63 := i_ne (a := p1.toInt) (b := 63) rfl rfl c15
        refine ⟨fun c21 => ?_, fun c21 => ?_⟩
        · have f10 : p1.toInt = 123 := i_eq (a := p1.toInt) (b := 123) rfl rfl c21
          exact j_36  
        · have f11 : p1.toInt ≠ 123 := i_ne (a := p1.toInt) (b := 123) rfl rfl c21
          refine ⟨fun c27 => ?_, fun c27 => ?_⟩
          · have f12 : p1.toInt = 125 := i_eq (a := p1.toInt) (b := 125) rfl rfl c27
            exact j_36  
          · have f13 : p1.toInt ≠ 125 := i_ne (a := p1.toInt) (b := 125) rfl rfl c27
            refine ⟨fun c33 => ?_, fun c33 => ?_⟩
            · have f14 : p1.toInt ≠ 93 := i_ne (a := p1.toInt) (b := 93) rfl rfl c33
              refine ok_X12_countItem (by omega) (by omega) (by omega) (fun r51_0 r51_1 r51_2 f15 f16 f17 f18 => ?_)
              refine ⟨fun c58 => ?_, fun c58 => ?_⟩
              · have f19 : r51_0.toInt ≤ 0 := i_le (a := r51_0.toInt) (b := 0) rfl rfl c58
                have j_154 : ∀ (l2_154 : Int32) (v_newNodes_154 : Int32) (v_newParts_154 : Int32) (v_fault_154 : Int32) (v_faultAt_154 : Int32) (v_at_154 : Int32) (v_memberValue_154 : Int32) (v_memberEnd_154 : Int32) (v_newSort_154 : Nat → Int32) (v_newValue_154 : Nat → Int32) (v_newLeast_154 : Nat → Int32) (v_newMost_154 : Nat → Int32) (v_newFirst_154 : Nat → Int32) (v_newNext_154 : Nat → Int32) (v_newMany_154 : Nat → Int32) (v_newPart_154 : Nat → Int32) (v_newBegin_154 : Nat → Int32) (v_newEnd_154 : Nat → Int32), l2_154.toInt = v_newNodes.toInt → v_newNodes_154.toInt = v_newNodes.toInt + 1 → v_newParts.toInt ≤ v_newParts_154.toInt → v_fault.toInt ≤ v_fault_154.toInt → v_at.toInt ≤ v_at_154.toInt → v_at.toInt + 1 ≤ v_at_154.toInt → ((1 ≤ v_fault_154.toInt) ∨ (v_at_154.toInt ≤ v_taped.toInt)) → v_at_154.toInt ≤ 250 → 2 * v_at.toInt + v_newParts_154.toInt ≤ 2 * v_at_154.toInt + v_newParts.toInt → v_newParts_154.toInt ≤ 419 → v_at_154.toInt ≤ 225 → (zRP v_fault_154.toInt v_newSort_154 v_newValue_154 v_newLeast_154 v_newMost_154 v_newFirst_154 v_newNext_154 v_newMany_154 v_newPart_154 v_newBegin_154 v_newEnd_154 v_rowFirst v_rowLast v_rowMany v_rowsFirst v_rowsLast v_rowsMany v_groupSort v_groupValue v_depth.toInt l2_154.toInt v_newNodes_154.toInt v_newParts_154.toInt v_newCaptures.toInt v_items.toInt v_at_154.toInt (16 * v_at_154.toInt)) → w_X12_readOne_154 v_taped v_depth v_tape Q l2_154 v_newNodes_154 v_newParts_154 v_fault_154 v_faultAt_154 v_at_154 r51_2 v_memberValue_154 v_memberEnd_154 v_loopLeast v_loopMost v_newSort_154 v_newValue_154 v_newLeast_154 v_newMost_154 v_newFirst_154 v_newNext_154 v_newMany_154 v_newPart_154 v_newBegin_154 v_newEnd_154 v_rowFirst v_rowLast v_rowMany := by
                  intro l2_154 v_newNodes_154 v_newParts_154 v_fault_154 v_faultAt_154 v_at_154 v_memberValue_154 v_memberEnd_154 v_newSort_154 v_newValue_154 v_newLeast_154 v_newMost_154 v_newFirst_154 v_newNext_154 v_newMany_154 v_newPart_154 v_newBegin_154 v_newEnd_154 f20 f21 f22 f23 f24 f25 f26 f27 f28 f29 f30 u154_0
                  unfold w_X12_readOne_154
                  refine ok_X12_looped (v_newBegin := v_newBegin_154) (v_newEnd := v_newEnd_154) (v_rowFirst := v_rowFirst) (v_rowLast := v_rowLast) (v_rowMany := v_rowMany) (v_rowsFirst := v_rowsFirst) (v_rowsLast := v_rowsLast) (v_rowsMany := v_rowsMany) (v_groupSort := v_groupSort) (v_groupValue := v_groupValue) (v_newParts := v_newParts_154) (v_newCaptures := v_newCaptures) (v_depth := v_depth) (gi9 := _) (ga9 := _) (gw9 := _) (by omega) (by omega) (by omega) (by omega) (by omega) (by omega) (by omega) (by omega) (by omega) (by omega) (by omega) (by omega) (by omega) (rp_mono b0 (by omega) (by omega)) (by first | assumption | omega) (by first | assumption | omega) (by first | assumption | omega) (by first | assumption | omega) (fun r157 r157_0 r157_1 r157_2 r157_3 r157_4 r157_5 r157_6 r157_7 r157_8 r157_9 r157_10 r157_11 r157_12 r157_13 r157_14 f31 f32 f33 f34 f35 f36 f37 f38 f39 f40 f41 f42 f43 f44 f45 u157_0 => ?_)
                  refine ok_X12_addNode (v_newSort := r157_7) (v_newValue := r157_8) (v_newLeast := r157_9) (v_newMost := r157_10) (v_newFirst := r157_11) (v_newMany := r157_13) (v_newPart := r157_14) (v_newBegin := v_newBegin_154) (v_newEnd := v_newEnd_154) (v_rowsFirst := v_rowsFirst) (v_rowsLast := v_rowsLast) (v_rowsMany := v_rowsMany) (v_groupSort := v_groupSort) (v_groupValue := v_groupValue) (v_fault := r157_1) (v_newNodes := r157_0) (v_newParts := v_newParts_154) (v_newCaptures := v_newCaptures) (gi9 := _) (ga9 := _) (gw9 := _) (by omega) (by omega) (by omega) (by omega) (qp2_mono b1 (by omega) (by omega)) (qp2_mono b2 (by omega) (by omega)) (rp_mono b3 (by omega) (by omega)) (rp_mono b4 (by omega) (by omega)) (by first | assumption | omega) (by first | assumption | omega) (fun r160_0 r160_1 r160_2 r160_3 h46 h47 h48 h49 h50 h51 u160_0 => ?_)
                  exact hq r157_0 v_newParts_154 r157_1 r157_2 r157_3 r157_4 v_memberValue_154 v_memberEnd_154 r157_5 r157_6 r157_7 r157_8 r157_9 r157_10 r157_11 r160_0 r157_13 r157_14 v_newBegin_154 v_newEnd_154 r160_1 r160_2 r160_3 (by omega) (by omega) (by omega) (by omega) (by omega) (by omega) (by omega) (by omega) (by omega) (by omega) (by omega) (by omega) (by omega) (by omega) (by omega) (by omega) (by omega) (qp2_mono h50 (by omega) (by omega)) (qp2_mono h51 (by omega) (by omega)) (rp_mono h47 (by omega) (by omega)) (rp_mono h49 (by omega) (by omega)) (qp2_mono h46 (by omega) (by omega)) (qp2_mono h48 (by omega) (by omega)) (by assumption)
                refine ⟨fun c67 => ?_, fun c67 => ?_⟩
                · have f52 : p1.toInt ≠ 92 := i_ne (a := p1.toInt) (b := 92) rfl rfl c67
                  refine ⟨fun c81 => ?_, fun c81 => ?_⟩
                  · have f53 : p1.toInt ≠ 91 := i_ne (a := p1.toInt) (b := 91) rfl rfl c81
                    intro x98 ex98
                    have f54 : x98.toInt = v_at.toInt + 1 := i_add (a := v_at.toInt) (b := 1) ex98 rfl rfl (by omega) (by omega)
                    have j_153 : ∀ (s0_153 : Int32) (v_newNodes_153 : Int32) (v_newSort_153 : Nat → Int32) (v_newValue_153 : Nat → Int32) (v_newLeast_153 : Nat → Int32) (v_newMost_153 : Nat → Int32) (v_newFirst_153 : Nat → Int32) (v_newNext_153 : Nat → Int32) (v_newMany_153 : Nat → Int32) (v_newPart_153 : Nat → Int32), s0_153.toInt = v_newNodes.toInt → v_newNodes_153.toInt = v_newNodes.toInt + 1 → (zRP r51_0.toInt v_newSort_153 v_newValue_153 v_newLeast_153 v_newMost_153 v_newFirst_153 v_newNext_153 v_newMany_153 v_newPart_153 v_newBegin v_newEnd v_rowFirst v_rowLast v_rowMany v_rowsFirst v_rowsLast v_rowsMany v_groupSort v_groupValue v_depth.toInt s0_153.toInt v_newNodes_153.toInt v_newParts.toInt v_newCaptures.toInt v_items.toInt x98.toInt (16 * x98.toInt)) → w_X12_readOne_153 v_taped v_depth v_tape Q s0_153 v_newNodes_153 v_newParts r51_0 r51_1 x98 r51_2 v_memberValue v_memberEnd v_loopLeast v_loopMost v_newSort_153 v_newValue_153 v_newLeast_153 v_newMost_153 v_newFirst_153 v_newNext_153 v_newMany_153 v_newPart_153 v_newBegin v_newEnd v_rowFirst v_rowLast v_rowMany := by
                      intro s0_153 v_newNodes_153 v_newSort_153 v_newValue_153 v_newLeast_153 v_newMost_153 v_newFirst_153 v_newNext_153 v_newMany_153 v_newPart_153 f55 f56 u153_0
                      unfold w_X12_readOne_153
                      exact j_154 s0_153 v_newNodes_153 v_newParts r51_0 r51_1 x98 v_memberValue v_memberEnd v_newSort_153 v_newValue_153 v_newLeast_153 v_newMost_153 v_newFirst_153 v_newNext_153 v_newMany_153 v_newPart_153 v_newBegin v_newEnd (by omega) (by omega) (by omega) (by omega) (by omega) (by omega) (by omega) (by omega) (by omega) (by omega) (by omega) (by assumption)
                    refine ⟨fun c105 => ?_, fun c105 => ?_⟩
                    · have f57 : p1.toInt ≠ 46 := i_ne (a := p1.toInt) (b := 46) rfl rfl c105
                      refine ⟨fun c120 => ?_, fun c120 => ?_⟩
                      · have f58 : p1.toInt ≠ 94 := i_ne (a := p1.toInt) (b := 94) rfl rfl c120
                        refine ⟨fun c135 => ?_, fun c135 => ?_⟩
                        · have f59 : p1.toInt ≠ 36 := i_ne (a := p1.toInt) (b := 36) rfl rfl c135
                          refine ok_X12_made (by omega) (by omega) (fun r150 r150_0 r150_1 r150_2 r150_3 r150_4 r150_5 r150_6 r150_7 r150_8 f60 f61 u150_0 => ?_)
                          exact j_153 r150 r150_0 r150_1 r150_2 r150_3 r150_4 r150_5 r150_6 r150_7 r150_8 (by omega) (by omega) (by exact zRP_leaf u0 (by assumption) (by omega) (by omega) (by omega) (by omega) (by omega) (by omega) (by omega) (by omega))
                        · have f62 : p1.toInt = 36 := i_eq (a := p1.toInt) (b := 36) rfl rfl c135
                          refine ok_X12_made (by omega) (by omega) (fun r141 r141_0 r141_1 r141_2 r141_3 r141_4 r141_5 r141_6 r141_7 r141_8 f63 f64 u141_0 => ?_)
                          exact j_153 r141 r141_0 r141_1 r141_2 r141_3 r141_4 r141_5 r141_6 r141_7 r141_8 (by omega) (by omega) (by exact zRP_leaf u0 (by assumption) (by omega) (by omega) (by omega) (by omega) (by omega) (by omega) (by omega) (by omega))
                      · have f65 : p1.toInt = 94 := i_eq (a := p1.toInt) (b := 94) rfl rfl c120
                        refine ok_X12_made (by omega) (by omega) (fun r126 r126_0 r126_1 r126_2 r126_3 r126_4 r126_5 r126_6 r126_7 r126_8 f66 f67 u126_0 => ?_)
                        exact j_153 r126 r126_0 r126_1 r126_2 r126_3 r126_4 r126_5 r126_6 r126_7 r126_8 (by omega) (by omega) (by exact zRP_leaf u0 (by assumption) (by omega) (by omega) (by omega) (by omega) (by omega) (by omega) (by omega) (by omega))
                    · have f68 : p1.toInt = 46 := i_eq (a := p1.toInt) (b := 46) rfl rfl c105
                      refine ok_X12_made (by omega) (by omega) (fun r111 r111_0 r111_1 r111_2 r111_3 r111_4 r111_5 r111_6 r111_7 r111_8 f69 f70 u111_0 => ?_)
                      exact j_153 r111 r111_0 r111_1 r111_2 r111_3 r111_4 r111_5 r111_6 r111_7 r111_8 (by omega) (by omega) (by exact zRP_leaf u0 (by assumption) (by omega) (by omega) (by omega) (by omega) (by omega) (by omega) (by omega) (by omega))
                  · have f71 : p1.toInt = 91 := i_eq (a := p1.toInt) (b := 91) rfl rfl c81
                    refine ok_X12_readSet (v_rowFirst := v_rowFirst) (v_rowLast := v_rowLast) (v_rowMany := v_rowMany) (v_rowsFirst := v_rowsFirst) (v_rowsLast := v_rowsLast) (v_rowsMany := v_rowsMany) (v_groupSort := v_groupSort) (v_groupValue := v_groupValue) (v_newCaptures := v_newCaptures) (v_depth := v_depth) (gi9 := v_items.toInt) (by omega) (by omega) (by omega) (by omega) (by omega) (by omega) (by omega) (by omega) (by omega) (rp_mono b0 (by omega) (by omega)) (by exact zRS_mono u0 (by omega) (by omega) (by omega) (by omega)) (fun r85 r85_0 r85_1 r85_2 r85_3 r85_4 r85_5 r85_6 r85_7 r85_8 r85_9 r85_10 r85_11 r85_12 r85_13 r85_14 r85_15 r85_16 f72 f73 f74 f75 f76 f77 f78 f79 f80 f81 f82 f83 f84 f85 f86 f87 f88 f89 f90 f91 u85_0 => ?_)
                    exact j_154 r85 r85_0 r85_1 r85_2 r85_3 r85_4 r85_5 r85_6 r85_7 r85_8 r85_9 r85_10 r85_11 r85_12 r85_13 r85_14 r85_15 r85_16 (by omega) (by omega) (by omega) (by omega) (by omega) (by omega) (by omega) (by omega) (by omega) (by omega) (by omega) (by assumption)
                · have f92 : p1.toInt = 92 := i_eq (a := p1.toInt) (b := 92) rfl rfl c67
                  refine ok_X12_escaped (v_rowFirst := v_rowFirst) (v_rowLast := v_rowLast) (v_rowMany := v_rowMany) (v_rowsFirst := v_rowsFirst) (v_rowsLast := v_rowsLast) (v_rowsMany := v_rowsMany) (v_groupSort := v_groupSort) (v_groupValue := v_groupValue) (v_depth := v_depth) (gi9 := v_items.toInt) (by omega) (by omega) (by omega) (by omega) (by omega) (by omega) (by omega) (by omega) (by omega) (by omega) (by omega) (rp_mono b0 (by omega) (by omega)) (by exact zRS_mono u0 (by omega) (by omega) (by omega) (by omega)) (fun r71 r71_0 r71_1 r71_2 r71_3 r71_4 r71_5 r71_6 r71_7 r71_8 r71_9 r71_10 r71_11 r71_12 r71_13 r71_14 f93 f94 f95 f96 f97 f98 f99 f100 f101 f102 u71_0 => ?_)
                  exact j_154 r71 r71_0 r71_1 r71_2 r71_3 r71_4 v_memberValue v_memberEnd r71_5 r71_6 r71_7 r71_8 r71_9 r71_10 r71_11 r71_12 r71_13 r71_14 (by omega) (by omega) (by omega) (by omega) (by omega) (by omega) (by omega) (by omega) (by omega) (by omega) (by omega) (by assumption)
              · have f103 : 0 < r51_0.toInt := i_nle (a := r51_0.toInt) (b := 0) rfl rfl c58
                exact hq v_newNodes v_newParts r51_0 r51_1 v_at r51_2 v_memberValue v_memberEnd v_loopLeast v_loopMost v_newSort v_newValue v_newLeast v_newMost v_newFirst v_newNext v_newMany v_newPart v_newBegin v_newEnd v_rowFirst v_rowLast v_rowMany (by omega) (by omega) (by omega) (by omega) (by omega) (by omega) (by omega) (by omega) (by omega) (by omega) (by omega) (by omega) (by omega) (by omega) (by omega) (by omega) (by omega) (qp2_mono b1 (by omega) (by omega)) (qp2_mono b2 (by omega) (by omega)) (rp_mono b3 (by omega) (by omega)) (rp_mono b4 (by omega) (by omega)) (qp2_mono b1 (by omega) (by omega)) (qp2_mono b2 (by omega) (by omega)) (by exact Or.inl (by omega))
            · have f104 : p1.toInt = 93 := i_eq (a := p1.toInt) (b := 93) rfl rfl c33
              exact j_36  
set_option maxHeartbeats 4000000 in
theorem ok_X12_capped {p0 : Int32} {Q : Int32 → Prop} (hq : ∀ (r : Int32), r.toInt ≤ p0.toInt → r.toInt ≤ 20000 → ((r.toInt = p0.toInt) ∨ (r.toInt = 20000)) → ((r.toInt = p0.toInt ∧ p0.toInt ≤ 20000) ∨ (r.toInt = 20000 ∧ 20001 ≤ p0.toInt)) → Q r) : w_X12_capped p0 Q := by
  have q_t : (bz true).toInt = 1 := rfl
  have q_f : (bz false).toInt = 0 := rfl
  have q_20000 : (20000 : Int32).toInt = 20000 := rfl
  unfold w_X12_capped
  have j_14 : ∀ (s0_14 : Int32), s0_14.toInt ≤ p0.toInt → s0_14.toInt ≤ 20000 → ((s0_14.toInt = p0.toInt) ∨ (s0_14.toInt = 20000)) → ((s0_14.toInt = p0.toInt ∧ p0.toInt ≤ 20000) ∨ (s0_14.toInt = 20000 ∧ 20001 ≤ p0.toInt)) → w_X12_capped_14 Q s0_14 := by
    intro s0_14 f1 f2 f3 f4
    unfold w_X12_capped_14
    exact hq s0_14 (by omega) (by omega) (by omega) (by omega)
  refine ⟨fun c4 => ?_, fun c4 => ?_⟩
  · have f5 : p0.toInt ≤ 20000 := i_le (a := p0.toInt) (b := 20000) rfl rfl c4
    exact j_14 p0 (by omega) (by omega) (by omega) (by omega)
  · have f6 : 20000 < p0.toInt := i_nle (a := p0.toInt) (b := 20000) rfl rfl c4
    exact j_14 20000 (by omega) (by omega) (by omega) (by omega)
set_option maxHeartbeats 4000000 in
theorem ok_X12_measure {p1 : Int32} {p2 : Int32} {v_sort : Nat → Int32} {v_least : Nat → Int32} {v_most : Nat → Int32} {v_end : Nat → Int32} {v_size : Nat → Int32} {v_positions : Nat → Int32} {v_mayEmpty : Nat → Bool} {gn9 : Int} {Q : (Nat → Int32) → (Nat → Int32) → (Nat → Bool) → Prop} (a0 : 0 ≤ p1.toInt) (a1 : p1.toInt ≤ 5) (a2 : 0 ≤ p2.toInt) (a3 : p2.toInt ≤ 219) (u0 : zMn v_sort v_least v_most v_end (220 * p1.toInt) gn9) (u1 : zMs v_sort v_least v_most v_end v_size v_positions (220 * p1.toInt) (p2.toInt + 1) gn9) (u2 : p2.toInt < gn9) (u3 : gn9 ≤ 220) (hq : ∀ (ov_size : Nat → Int32) (ov_positions : Nat → Int32) (ov_mayEmpty : Nat → Bool), (zMs v_sort v_least v_most v_end ov_size ov_positions (220 * p1.toInt) p2.toInt gn9) → (zOb v_size ov_size (220 * p1.toInt)) → (zOb v_positions ov_positions (220 * p1.toInt)) → Q ov_size ov_positions ov_mayEmpty) : w_X12_measure p1 p2 v_sort v_least v_most v_end v_size v_positions v_mayEmpty Q := by
  have q_t : (bz true).toInt = 1 := rfl
  have q_f : (bz false).toInt = 0 := rfl
  have q_0 : (0 : Int32).toInt = 0 := rfl
  have q_1 : (1 : Int32).toInt = 1 := rfl
  unfold w_X12_measure
  intro x4 ex4
  have f1 : x4.toInt = 220 * p1.toInt := i_mul (a := 220) (b := p1.toInt) ex4 rfl rfl (by omega) (by omega)
  intro x8 ex8
  have f2 : x8.toInt = x4.toInt + p2.toInt := i_add (a := x4.toInt) (b := p2.toInt) ex8 rfl rfl (by omega) (by omega)
  intro x25 ex25
  have f3 : x25.toInt = p2.toInt + 1 := i_add (a := p2.toInt) (b := 1) ex25 rfl rfl (by omega) (by omega)
  have j_28 : ∀ n_28 : Nat, ∀ (l5_28 : Int32) (l6_28 : Int32) (l7_28 : Int32) (l8_28 : Int32) (l9_28 : Int32), 0 ≤ l7_28.toInt → l7_28.toInt ≤ 1 → 0 ≤ l8_28.toInt → l8_28.toInt ≤ 1 → l9_28.toInt ≤ 220 → x25.toInt ≤ l9_28.toInt → (zSu v_end v_size (220 * p1.toInt) p2.toInt (zg v_end ((220 * p1.toInt) + p2.toInt)) l9_28.toInt l5_28.toInt) → (zSu v_end v_positions (220 * p1.toInt) p2.toInt (zg v_end ((220 * p1.toInt) + p2.toInt)) l9_28.toInt l6_28.toInt) → ((-1) * l9_28.toInt + 2147483648).toNat < n_28 → w_X12_measure_28 v_sort v_least v_most v_end Q x4 x8 v_size v_positions v_mayEmpty n_28 l5_28 l6_28 l7_28 l8_28 l9_28 := by
    intro n_28
    induction n_28 with
    | zero =>
      intro l5_28 l6_28 l7_28 l8_28 l9_28 f4 f5 f6 f7 f8 f9 u28_0 u28_1 hm_28
      exfalso; omega
    | succ n_28 ih_28 =>
      intro l5_28 l6_28 l7_28 l8_28 l9_28 f4 f5 f6 f7 f8 f9 u28_0 u28_1 hm_28
      unfold w_X12_measure_28
      unfold w_X12_measure_28B
      have hL5 := u28_0.2.1
      have hL6 := u28_1.2.1
      have hL5a := u28_0.1
      have hL6a := u28_1.1
      refine ⟨i_in (by omega) (by omega), ?_⟩
      intro x36 ex36
      have f10 : x36.toInt ≤ 220 := by have h9 := zMn_e (k := p2.toInt) u0 ex36 (by omega) (by omega) (by omega); omega
      have h36 := zMn_e (k := p2.toInt) u0 ex36 (by omega) (by omega) (by omega)
      refine ⟨fun c37 => ?_, fun c37 => ?_⟩
      · have f11 : x36.toInt ≤ l9_28.toInt := i_le (a := x36.toInt) (b := l9_28.toInt) rfl rfl c37
        have hl9 := zg_at2 (k := ((220 * p1.toInt) + p2.toInt)) ex36 (by omega)
        have hs9 := zSu_x u28_0 (by omega)
        have he9 := zSu_x u28_1 (by omega)
        refine ⟨i_in (by omega) (by omega), ?_⟩
        intro x142 ex142
        have f12 : 0 ≤ x142.toInt := by have h9 := zMn_s (k := p2.toInt) u0 ex142 (by omega) (by omega) (by omega); omega
        have f13 : x142.toInt ≤ 11 := by have h9 := zMn_s (k := p2.toInt) u0 ex142 (by omega) (by omega) (by omega); omega
        have j_202 : ∀ (l10_202 : Int32), 1 ≤ l10_202.toInt → l10_202.toInt ≤ 21 → ((l10_202.toInt = 1) ∨ (x142.toInt = 7 ∧ 1 ≤ l10_202.toInt ∧ l10_202.toInt ≤ 21)) → (l10_202.toInt = zby v_sort v_least v_most x8.toInt) → w_X12_measure_202 v_least Q x8 l5_28 l6_28 l7_28 l8_28 x142 l10_202 v_size v_positions v_mayEmpty := by
          intro l10_202 f14 f15 f16 u202_0
          unfold w_X12_measure_202
          have hb9 : l10_202.toInt = zby v_sort v_least v_most ((220 * p1.toInt) + p2.toInt) := by
            rw [← (show x8.toInt = (220 * p1.toInt) + p2.toInt by omega)]
            exact u202_0
          intro x213 ex213
          have f17 : 0 ≤ x213.toInt := by have h9 := zmul_i ex213 (by omega) (by omega) (by omega) (by omega); omega
          have f18 : x213.toInt ≤ 420000 := by have h9 := zmul_i ex213 (by omega) (by omega) (by omega) (by omega); omega
          have hm1 := (zmul_i ex213 (by omega) (by omega) (by omega) (by omega)).1
          intro x214 ex214
          have f19 : x214.toInt = 1 + x213.toInt := i_add (a := 1) (b := x213.toInt) ex214 rfl rfl (by omega) (by omega)
          refine ok_X12_capped  (fun r215 f20 f21 f22 f23 => ?_)
          refine ⟨i_in (by omega) (by omega), ?_⟩
          intro g218 eg218
          have j_243 : ∀ (s0_243 : Int32), ((3 ≤ x142.toInt ∧ s0_243.toInt ≤ 20000) ∨ (s0_243.toInt = 1 ∧ x142.toInt ≤ 2)) → 0 ≤ s0_243.toInt → (0 ≤ s0_243.toInt ∧ s0_243.toInt ≤ 20000 ∧ (x142.toInt ≤ 2 → s0_243.toInt = 1) ∧ (2 < x142.toInt → s0_243.toInt = 20000 ∨ s0_243.toInt = l10_202.toInt * l6_28.toInt)) → w_X12_measure_243 v_least Q s0_243 x8 x8 l7_28 l8_28 x142 g218 v_positions v_mayEmpty := by
            intro s0_243 f24 f25 u243_0
            unfold w_X12_measure_243
            refine ⟨i_in (by omega) (by omega), ?_⟩
            intro g243 eg243
            have j_321 : ∀ (s0_321 : Int32), s0_321.toInt ≤ 21 → ((s0_321.toInt = 0) ∨ (s0_321.toInt = 1)) → w_X12_measure_321 Q s0_321 x8 g218 g243 v_mayEmpty := by
              intro s0_321 f26 f27
              unfold w_X12_measure_321
              refine ⟨i_in (by omega) (by omega), ?_⟩
              intro g321 eg321
              exact hq g218 g243 g321 (by exact zMs_new u1 u0 eg218 eg243 (by omega) (by omega) (by omega) hs9 he9 (by omega) (by rw [← hb9]; omega) (by rw [← hb9, ← zg_at2 ex142 (show x8.toInt = _ by omega)]; exact u243_0)) (by exact zOb_w zOb_rf eg218 (by omega)) (by exact zOb_w zOb_rf eg243 (by omega))
            have j_316 : w_X12_measure_316 Q x8 g218 g243 v_mayEmpty := by
              unfold w_X12_measure_316
              exact j_321 1 (by omega) (by omega)
            refine ⟨fun c253 => ?_, fun c253 => ?_⟩
            · have f28 : x142.toInt = 3 := i_eq (a := x142.toInt) (b := 3) rfl rfl c253
              exact j_316  
            · have f29 : x142.toInt ≠ 3 := i_ne (a := x142.toInt) (b := 3) rfl rfl c253
              refine ⟨fun c259 => ?_, fun c259 => ?_⟩
              · have f30 : x142.toInt = 4 := i_eq (a := x142.toInt) (b := 4) rfl rfl c259
                exact j_316  
              · have f31 : x142.toInt ≠ 4 := i_ne (a := x142.toInt) (b := 4) rfl rfl c259
                refine ⟨fun c266 => ?_, fun c266 => ?_⟩
                · have f32 : x142.toInt = 9 := i_eq (a := x142.toInt) (b := 9) rfl rfl c266
                  exact j_316  
                · have f33 : x142.toInt ≠ 9 := i_ne (a := x142.toInt) (b := 9) rfl rfl c266
                  have j_286 : w_X12_measure_286 Q x8 l7_28 l8_28 x142 g218 g243 v_mayEmpty := by
                    unfold w_X12_measure_286
                    have j_298 : w_X12_measure_298 Q x8 l7_28 x142 g218 g243 v_mayEmpty := by
                      unfold w_X12_measure_298
                      have j_320 : ((x142.toInt = 6) ∨ (x142.toInt ≤ 2) ∨ (3 ≤ x142.toInt ∧ l7_28.toInt = 0)) → w_X12_measure_320 Q x8 g218 g243 v_mayEmpty := by
                        intro f34
                        unfold w_X12_measure_320
                        exact j_321 0 (by omega) (by omega)
                      refine ⟨fun c302 => ?_, fun c302 => ?_⟩
                      · have f35 : x142.toInt = 6 := i_eq (a := x142.toInt) (b := 6) rfl rfl c302
                        exact j_320  (by omega)
                      · have f36 : x142.toInt ≠ 6 := i_ne (a := x142.toInt) (b := 6) rfl rfl c302
                        refine ⟨fun c308 => ?_, fun c308 => ?_⟩
                        · have f37 : x142.toInt ≤ 2 := i_le (a := x142.toInt) (b := 2) rfl rfl c308
                          exact j_320  (by omega)
                        · have f38 : 2 < x142.toInt := i_nle (a := x142.toInt) (b := 2) rfl rfl c308
                          refine ⟨fun c313 => ?_, fun c313 => ?_⟩
                          · have f39 : l7_28.toInt = 0 := i_eq (a := l7_28.toInt) (b := 0) rfl rfl c313
                            exact j_320  (by omega)
                          · have f40 : l7_28.toInt ≠ 0 := i_ne (a := l7_28.toInt) (b := 0) rfl rfl c313
                            exact j_316  
                    refine ⟨fun c290 => ?_, fun c290 => ?_⟩
                    · have f41 : x142.toInt ≠ 6 := i_ne (a := x142.toInt) (b := 6) rfl rfl c290
                      exact j_298  
                    · have f42 : x142.toInt = 6 := i_eq (a := x142.toInt) (b := 6) rfl rfl c290
                      refine ⟨fun c295 => ?_, fun c295 => ?_⟩
                      · have f43 : l8_28.toInt ≠ 0 := i_ne (a := l8_28.toInt) (b := 0) rfl rfl c295
                        exact j_316  
                      · have f44 : l8_28.toInt = 0 := i_eq (a := l8_28.toInt) (b := 0) rfl rfl c295
                        exact j_298  
                  refine ⟨fun c273 => ?_, fun c273 => ?_⟩
                  · have f45 : x142.toInt ≠ 7 := i_ne (a := x142.toInt) (b := 7) rfl rfl c273
                    exact j_286  
                  · have f46 : x142.toInt = 7 := i_eq (a := x142.toInt) (b := 7) rfl rfl c273
                    refine ⟨i_in (by omega) (by omega), ?_⟩
                    intro x282 ex282
                    refine ⟨fun c283 => ?_, fun c283 => ?_⟩
                    · have f47 : x282.toInt = 0 := i_eq (a := x282.toInt) (b := 0) rfl rfl c283
                      exact j_316  
                    · have f48 : x282.toInt ≠ 0 := i_ne (a := x282.toInt) (b := 0) rfl rfl c283
                      exact j_286  
          refine ⟨fun c228 => ?_, fun c228 => ?_⟩
          · have f49 : 2 < x142.toInt := i_lt (a := 2) (b := x142.toInt) rfl rfl c228
            intro x239 ex239
            have f50 : 0 ≤ x239.toInt := by have h9 := zmul_i ex239 (by omega) (by omega) (by omega) (by omega); omega
            have f51 : x239.toInt ≤ 420000 := by have h9 := zmul_i ex239 (by omega) (by omega) (by omega) (by omega); omega
            have hm2 := (zmul_i ex239 (by omega) (by omega) (by omega) (by omega)).1
            refine ok_X12_capped  (fun r240 f52 f53 f54 f55 => ?_)
            exact j_243 r240 (by omega) (by omega) (by omega)
          · have f56 : x142.toInt ≤ 2 := i_nlt (a := 2) (b := x142.toInt) rfl rfl c228
            exact j_243 1 (by omega) (by omega) (by omega)
        refine ⟨fun c152 => ?_, fun c152 => ?_⟩
        · have f57 : x142.toInt ≠ 7 := i_ne (a := x142.toInt) (b := 7) rfl rfl c152
          exact j_202 1 (by omega) (by omega) (by omega) (by first | exact u200_0 | exact zby_a ex142 (by omega))
        · have f58 : x142.toInt = 7 := i_eq (a := x142.toInt) (b := 7) rfl rfl c152
          refine ⟨i_in (by omega) (by omega), ?_⟩
          intro x161 ex161
          have j_200 : ∀ (s0_200 : Int32), 1 ≤ s0_200.toInt → s0_200.toInt ≤ 21 → ((1 ≤ s0_200.toInt ∧ s0_200.toInt ≤ 20) ∨ (s0_200.toInt = 1) ∨ (1 ≤ s0_200.toInt ∧ s0_200.toInt ≤ 21)) → (s0_200.toInt = zby v_sort v_least v_most x8.toInt) → w_X12_measure_200 v_least Q s0_200 x8 l5_28 l6_28 l7_28 l8_28 x142 v_size v_positions v_mayEmpty := by
            intro s0_200 f59 f60 f61 u200_0
            unfold w_X12_measure_200
            exact j_202 s0_200 (by omega) (by omega) (by omega) (by first | exact u200_0 | exact zby_a ex142 (by omega))
          refine ⟨fun c163 => ?_, fun c163 => ?_⟩
          · have f62 : x161.toInt ≠ (-1) := i_ne (a := x161.toInt) (b := (-1)) rfl rfl c163
            refine ⟨i_in (by omega) (by omega), ?_⟩
            intro x184 ex184
            have f63 : x184.toInt = x161.toInt := congrArg Int32.toInt (ex184.trans ex161.symm)
            refine ⟨fun c186 => ?_, fun c186 => ?_⟩
            · have f64 : 1 ≤ x184.toInt := i_le (a := 1) (b := x184.toInt) rfl rfl c186
              refine ⟨i_in (by omega) (by omega), ?_⟩
              intro x199 ex199
              have f65 : x199.toInt = x161.toInt := congrArg Int32.toInt (ex199.trans ex161.symm)
              have f66 : x199.toInt ≤ 20 := by have h9 := zMn_m (k := p2.toInt) u0 ex199 (by omega) (by omega) (by omega); omega
              exact j_200 x199 (by omega) (by omega) (by omega) (by first | exact zby_b ex142 (by omega) ex161 (by omega) ex172 (by omega) | exact zby_c ex142 (by omega) ex161 (by omega) ex184 (by omega) | exact zby_d ex142 (by omega) ex161 (by omega) ex184 (by omega) ex199)
            · have f67 : x184.toInt < 1 := i_nle (a := 1) (b := x184.toInt) rfl rfl c186
              exact j_200 1 (by omega) (by omega) (by omega) (by first | exact zby_b ex142 (by omega) ex161 (by omega) ex172 (by omega) | exact zby_c ex142 (by omega) ex161 (by omega) ex184 (by omega) | exact zby_d ex142 (by omega) ex161 (by omega) ex184 (by omega) ex199)
          · have f68 : x161.toInt = (-1) := i_eq (a := x161.toInt) (b := (-1)) rfl rfl c163
            refine ⟨i_in (by omega) (by omega), ?_⟩
            intro x172 ex172
            have f69 : 0 ≤ x172.toInt := by have h9 := zMn_l (k := p2.toInt) u0 ex172 (by omega) (by omega) (by omega); omega
            have f70 : x172.toInt ≤ 20 := by have h9 := zMn_l (k := p2.toInt) u0 ex172 (by omega) (by omega) (by omega); omega
            intro x174 ex174
            have f71 : x174.toInt = x172.toInt + 1 := i_add (a := x172.toInt) (b := 1) ex174 rfl rfl (by omega) (by omega)
            exact j_200 x174 (by omega) (by omega) (by omega) (by first | exact zby_b ex142 (by omega) ex161 (by omega) ex172 (by omega) | exact zby_c ex142 (by omega) ex161 (by omega) ex184 (by omega) | exact zby_d ex142 (by omega) ex161 (by omega) ex184 (by omega) ex199)
      · have f72 : l9_28.toInt < x36.toInt := i_nle (a := x36.toInt) (b := l9_28.toInt) rfl rfl c37
        intro x49 ex49
        have f73 : x49.toInt = x4.toInt + l9_28.toInt := i_add (a := x4.toInt) (b := l9_28.toInt) ex49 rfl rfl (by omega) (by omega)
        refine ⟨i_in (by omega) (by omega), ?_⟩
        intro x50 ex50
        have f74 : 1 ≤ x50.toInt := by have h9 := zMs_z (k := l9_28.toInt) u1 ex50 (by omega) (by omega) (by omega) (by omega); omega
        have f75 : x50.toInt ≤ 20000 := by have h9 := zMs_z (k := l9_28.toInt) u1 ex50 (by omega) (by omega) (by omega) (by omega); omega
        intro x51 ex51
        refine ok_X12_capped  (fun r52 f76 f77 f78 f79 => ?_)
        intro x66 ex66
        have f80 : x66.toInt = x4.toInt + l9_28.toInt := i_add (a := x4.toInt) (b := l9_28.toInt) ex66 rfl rfl (by omega) (by omega)
        refine ⟨i_in (by omega) (by omega), ?_⟩
        intro x67 ex67
        have f81 : 0 ≤ x67.toInt := by have h9 := zMs_p (k := l9_28.toInt) u1 ex67 (by omega) (by omega) (by omega) (by omega); omega
        have f82 : x67.toInt ≤ 20000 := by have h9 := zMs_p (k := l9_28.toInt) u1 ex67 (by omega) (by omega) (by omega) (by omega); omega
        intro x68 ex68
        refine ok_X12_capped  (fun r69 f83 f84 f85 f86 => ?_)
        have j_96 : ∀ (s0_96 : Int32), s0_96.toInt ≤ 21 → ((s0_96.toInt = 1) ∨ (s0_96.toInt = 0)) → w_X12_measure_96 v_end x4 v_mayEmpty Q (w_X12_measure_28 v_sort v_least v_most v_end Q x4 x8 v_size v_positions v_mayEmpty n_28) s0_96 r52 r69 l8_28 l9_28 := by
          intro s0_96 f87 f88
          unfold w_X12_measure_96
          have j_120 : ∀ (s0_120 : Int32), s0_120.toInt ≤ 21 → ((s0_120.toInt = 0 ∧ l8_28.toInt = 0) ∨ (s0_120.toInt = 1)) → w_X12_measure_120 v_end x4 Q (w_X12_measure_28 v_sort v_least v_most v_end Q x4 x8 v_size v_positions v_mayEmpty n_28) s0_120 r52 r69 s0_96 l9_28 := by
            intro s0_120 f89 f90
            unfold w_X12_measure_120
            intro x129 ex129
            have f91 : x129.toInt = x4.toInt + l9_28.toInt := i_add (a := x4.toInt) (b := l9_28.toInt) ex129 rfl rfl (by omega) (by omega)
            refine ⟨i_in (by omega) (by omega), ?_⟩
            intro x130 ex130
            have f92 : l9_28.toInt + 1 ≤ x130.toInt := by have h9 := zMn_e (k := l9_28.toInt) u0 ex130 (by omega) (by omega) (by omega); omega
            have f93 : x130.toInt ≤ 220 := by have h9 := zMn_e (k := l9_28.toInt) u0 ex130 (by omega) (by omega) (by omega); omega
            exact ih_28 r52 r69 s0_96 s0_120 x130 (by omega) (by omega) (by omega) (by omega) (by omega) (by omega) (by first | exact zSu_0 (by omega) | exact zSu_r (x3 := x36) u28_0 u0 ex50 ex51 ex130 (by omega) (by omega) (by omega) (by omega) (zg_at2 ex36 (by omega)) (by omega) (by omega)) (by first | exact zSu_0 (by omega) | exact zSu_r (x3 := x36) u28_1 u0 ex67 ex68 ex130 (by omega) (by omega) (by omega) (by omega) (zg_at2 ex36 (by omega)) (by omega) (by omega)) (by have h8_0 := i_rng l9_28; have h8_1 := i_rng x130; omega)
          have j_115 : w_X12_measure_115 v_end x4 Q (w_X12_measure_28 v_sort v_least v_most v_end Q x4 x8 v_size v_positions v_mayEmpty n_28) r52 r69 s0_96 l9_28 := by
            unfold w_X12_measure_115
            exact j_120 1 (by omega) (by omega)
          refine ⟨fun c100 => ?_, fun c100 => ?_⟩
          · have f94 : l8_28.toInt ≠ 0 := i_ne (a := l8_28.toInt) (b := 0) rfl rfl c100
            exact j_115  
          · have f95 : l8_28.toInt = 0 := i_eq (a := l8_28.toInt) (b := 0) rfl rfl c100
            intro x110 ex110
            have f96 : x110.toInt = x4.toInt + l9_28.toInt := i_add (a := x4.toInt) (b := l9_28.toInt) ex110 rfl rfl (by omega) (by omega)
            refine ⟨i_in (by omega) (by omega), ?_⟩
            intro x111 ex111
            have f97 : (0 ≤ x111.toInt ∧ x111.toInt ≤ 1) := i_bz ex111
            refine ⟨fun c112 => ?_, fun c112 => ?_⟩
            · have f98 : x111.toInt = 0 := i_eq (a := x111.toInt) (b := 0) rfl rfl c112
              exact j_120 0 (by omega) (by omega)
            · have f99 : x111.toInt ≠ 0 := i_ne (a := x111.toInt) (b := 0) rfl rfl c112
              exact j_115  
        have j_95 : w_X12_measure_95 v_end x4 v_mayEmpty Q (w_X12_measure_28 v_sort v_least v_most v_end Q x4 x8 v_size v_positions v_mayEmpty n_28) r52 r69 l8_28 l9_28 := by
          unfold w_X12_measure_95
          exact j_96 0 (by omega) (by omega)
        refine ⟨fun c76 => ?_, fun c76 => ?_⟩
        · have f100 : l7_28.toInt = 0 := i_eq (a := l7_28.toInt) (b := 0) rfl rfl c76
          exact j_95  
        · have f101 : l7_28.toInt ≠ 0 := i_ne (a := l7_28.toInt) (b := 0) rfl rfl c76
          intro x86 ex86
          have f102 : x86.toInt = x4.toInt + l9_28.toInt := i_add (a := x4.toInt) (b := l9_28.toInt) ex86 rfl rfl (by omega) (by omega)
          refine ⟨i_in (by omega) (by omega), ?_⟩
          intro x87 ex87
          have f103 : (0 ≤ x87.toInt ∧ x87.toInt ≤ 1) := i_bz ex87
          refine ⟨fun c88 => ?_, fun c88 => ?_⟩
          · have f104 : x87.toInt = 0 := i_eq (a := x87.toInt) (b := 0) rfl rfl c88
            exact j_95  
          · have f105 : x87.toInt ≠ 0 := i_ne (a := x87.toInt) (b := 0) rfl rfl c88
            exact j_96 1 (by omega) (by omega)
  exact ⟨((-1) * x25.toInt + 2147483648).toNat + 1, j_28   (((-1) * x25.toInt + 2147483648).toNat + 1) 0 0 1 0 x25 (by omega) (by omega) (by omega) (by omega) (by omega) (by omega) (by first | exact zSu_0 (by omega) | exact zSu_r (x3 := x36) u28_0 u0 ex50 ex51 ex130 (by omega) (by omega) (by omega) (by omega) (zg_at2 ex36 (by omega)) (by omega) (by omega)) (by first | exact zSu_0 (by omega) | exact zSu_r (x3 := x36) u28_1 u0 ex67 ex68 ex130 (by omega) (by omega) (by omega) (by omega) (zg_at2 ex36 (by omega)) (by omega) (by omega)) (by omega)⟩
set_option maxHeartbeats 4000000 in
theorem ok_X12_keepPattern {p1 : Int32} {p2 : Int32} {v_newNodes : Int32} {v_newParts : Int32} {v_newCaptures : Int32} {v_isThere : Nat → Bool} {v_many : Nat → Int32} {v_captures : Nat → Int32} {v_nameOf : Nat → Int32} {v_sort : Nat → Int32} {v_value : Nat → Int32} {v_least : Nat → Int32} {v_most : Nat → Int32} {v_holder : Nat → Int32} {v_parts : Nat → Int32} {v_end : Nat → Int32} {v_size : Nat → Int32} {v_positions : Nat → Int32} {v_firstPart : Nat → Int32} {v_mayEmpty : Nat → Bool} {v_inCase : Nat → Bool} {v_partBegin : Nat → Int32} {v_partEnd : Nat → Int32} {v_newSort : Nat → Int32} {v_newValue : Nat → Int32} {v_newLeast : Nat → Int32} {v_newMost : Nat → Int32} {v_newFirst : Nat → Int32} {v_newNext : Nat → Int32} {v_newMany : Nat → Int32} {v_newPart : Nat → Int32} {v_newBegin : Nat → Int32} {v_newEnd : Nat → Int32} {v_newNames : Nat → Int32} {v_waiting : Nat → Int32} {v_waitingHolder : Nat → Int32} {Q : (Nat → Bool) → (Nat → Int32) → (Nat → Int32) → (Nat → Int32) → (Nat → Int32) → (Nat → Int32) → (Nat → Int32) → (Nat → Int32) → (Nat → Int32) → (Nat → Int32) → (Nat → Int32) → (Nat → Int32) → (Nat → Int32) → (Nat → Int32) → (Nat → Bool) → (Nat → Bool) → (Nat → Int32) → (Nat → Int32) → (Nat → Int32) → (Nat → Int32) → Prop} (a0 : 0 ≤ p1.toInt) (a1 : p1.toInt ≤ 5) (a2 : 1 ≤ v_newNodes.toInt) (a3 : v_newNodes.toInt ≤ 220) (a4 : 0 ≤ v_newParts.toInt) (a5 : v_newParts.toInt ≤ 420) (a6 : 0 ≤ v_newCaptures.toInt) (a7 : v_newCaptures.toInt ≤ 9) (u0 : zOne v_newSort v_newValue v_newFirst v_newNext p2.toInt 0 v_newNodes.toInt 0 v_newCaptures.toInt ∧ zFn v_newSort v_newValue v_newLeast v_newMost v_newMany v_newPart v_newNodes.toInt v_newParts.toInt ∧ zFp v_newBegin v_newEnd v_newParts.toInt ∧ zCn v_newSort v_newValue v_newMany v_newPart v_newBegin v_newEnd 0 v_newNodes.toInt v_newParts.toInt v_newCaptures.toInt 100 200 3224) (u1 : zAll v_isThere v_many v_captures v_sort v_value v_least v_most v_holder v_parts v_end v_firstPart v_partBegin v_partEnd v_size v_positions) (hq : ∀ (ov_isThere : Nat → Bool) (ov_many : Nat → Int32) (ov_captures : Nat → Int32) (ov_nameOf : Nat → Int32) (ov_sort : Nat → Int32) (ov_value : Nat → Int32) (ov_least : Nat → Int32) (ov_most : Nat → Int32) (ov_holder : Nat → Int32) (ov_parts : Nat → Int32) (ov_end : Nat → Int32) (ov_size : Nat → Int32) (ov_positions : Nat → Int32) (ov_firstPart : Nat → Int32) (ov_mayEmpty : Nat → Bool) (ov_inCase : Nat → Bool) (ov_partBegin : Nat → Int32) (ov_partEnd : Nat → Int32) (ov_waiting : Nat → Int32) (ov_waitingHolder : Nat → Int32), (zAll ov_isThere ov_many ov_captures ov_sort ov_value ov_least ov_most ov_holder ov_parts ov_end ov_firstPart ov_partBegin ov_partEnd ov_size ov_positions) → (∀ j : Int, 0 ≤ j → j ≠ p1.toInt → ov_isThere j.toNat = v_isThere j.toNat) → Q ov_isThere ov_many ov_captures ov_nameOf ov_sort ov_value ov_least ov_most ov_holder ov_parts ov_end ov_size ov_positions ov_firstPart ov_mayEmpty ov_inCase ov_partBegin ov_partEnd ov_waiting ov_waitingHolder) : w_X12_keepPattern p1 p2 v_newParts v_newCaptures v_isThere v_many v_captures v_nameOf v_sort v_value v_least v_most v_holder v_parts v_end v_size v_positions v_firstPart v_mayEmpty v_inCase v_partBegin v_partEnd v_newSort v_newValue v_newLeast v_newMost v_newFirst v_newNext v_newMany v_newPart v_newBegin v_newEnd v_newNames v_waiting v_waitingHolder Q := by
  have q_t : (bz true).toInt = 1 := rfl
  have q_f : (bz false).toInt = 0 := rfl
  have q_0 : (0 : Int32).toInt = 0 := rfl
  have q_1 : (1 : Int32).toInt = 1 := rfl
  unfold w_X12_keepPattern
  intro x4 ex4
  have f1 : x4.toInt = 220 * p1.toInt := i_mul (a := 220) (b := p1.toInt) ex4 rfl rfl (by omega) (by omega)
  intro g18 eg18
  intro g25 eg25
  have j_26 : ∀ n_26 : Nat, ∀ (l4_26 : Int32) (l5_26 : Int32) (v_sort_26 : Nat → Int32) (v_value_26 : Nat → Int32) (v_least_26 : Nat → Int32) (v_most_26 : Nat → Int32) (v_holder_26 : Nat → Int32) (v_parts_26 : Nat → Int32) (v_end_26 : Nat → Int32) (v_firstPart_26 : Nat → Int32) (v_inCase_26 : Nat → Bool) (v_waiting_26 : Nat → Int32) (v_waitingHolder_26 : Nat → Int32), 0 ≤ l4_26.toInt → l4_26.toInt ≤ v_newNodes.toInt → 0 ≤ l5_26.toInt → l5_26.toInt ≤ v_newNodes.toInt + 1 → (zKp v_newSort v_newValue v_newLeast v_newMost v_newFirst v_newNext v_newMany v_newPart v_waiting_26 v_waitingHolder_26 v_sort_26 v_value_26 v_least_26 v_most_26 v_holder_26 v_parts_26 v_firstPart_26 (220 * p1.toInt) (420 * p1.toInt) l4_26.toInt l5_26.toInt v_newNodes.toInt v_newCaptures.toInt) → (zEi v_end_26 (220 * p1.toInt) l4_26.toInt) → (zO8 v_sort v_value v_least v_most v_holder v_parts v_end v_firstPart v_sort_26 v_value_26 v_least_26 v_most_26 v_holder_26 v_parts_26 v_end_26 v_firstPart_26 (220 * p1.toInt)) → ((-1) * l4_26.toInt + 420).toNat < n_26 → w_X12_keepPattern_26 p1 v_newParts v_newCaptures v_newSort v_newValue v_newLeast v_newMost v_newFirst v_newNext v_newMany v_newPart v_newBegin v_newEnd v_newNames Q x4 v_isThere v_many v_captures v_nameOf v_size v_positions v_mayEmpty v_partBegin v_partEnd n_26 l4_26 l5_26 v_sort_26 v_value_26 v_least_26 v_most_26 v_holder_26 v_parts_26 v_end_26 v_firstPart_26 v_inCase_26 v_waiting_26 v_waitingHolder_26 := by
    intro n_26
    induction n_26 with
    | zero =>
      intro l4_26 l5_26 v_sort_26 v_value_26 v_least_26 v_most_26 v_holder_26 v_parts_26 v_end_26 v_firstPart_26 v_inCase_26 v_waiting_26 v_waitingHolder_26 f2 f3 f4 f5 u26_0 u26_1 u26_2 hm_26
      exfalso; omega
    | succ n_26 ih_26 =>
      intro l4_26 l5_26 v_sort_26 v_value_26 v_least_26 v_most_26 v_holder_26 v_parts_26 v_end_26 v_firstPart_26 v_inCase_26 v_waiting_26 v_waitingHolder_26 f2 f3 f4 f5 u26_0 u26_1 u26_2 hm_26
      unfold w_X12_keepPattern_26
      unfold w_X12_keepPattern_26B
      have f6 : l4_26.toInt + l5_26.toInt ≤ v_newNodes.toInt := by have h9 := zKp_le u26_0 (by omega); omega
      refine ⟨fun c28 => ?_, fun c28 => ?_⟩
      · have f7 : l5_26.toInt ≤ 0 := i_le (a := l5_26.toInt) (b := 0) rfl rfl c28
        obtain ⟨hnN, hbk⟩ := zBk_0 (k := l4_26.toInt - 1) u26_0 (by omega) rfl u26_1
        have f8 : l4_26.toInt = v_newNodes.toInt := hnN
        have j_292 : ∀ n_292 : Nat, ∀ (l6_292 : Int32) (v_partBegin_292 : Nat → Int32) (v_partEnd_292 : Nat → Int32), 0 ≤ l6_292.toInt → l6_292.toInt ≤ v_newParts.toInt → (zCy v_newBegin v_newEnd v_partBegin v_partEnd v_partBegin_292 v_partEnd_292 (420 * p1.toInt) l6_292.toInt) → ((-1) * l6_292.toInt + 420).toNat < n_292 → w_X12_keepPattern_292 p1 v_newParts v_newCaptures v_newBegin v_newEnd v_newNames Q x4 l4_26 v_isThere v_many v_captures v_nameOf v_sort_26 v_value_26 v_least_26 v_most_26 v_holder_26 v_parts_26 v_end_26 v_size v_positions v_firstPart_26 v_mayEmpty v_inCase_26 v_waiting_26 v_waitingHolder_26 n_292 l6_292 v_partBegin_292 v_partEnd_292 := by
          intro n_292
          induction n_292 with
          | zero =>
            intro l6_292 v_partBegin_292 v_partEnd_292 f9 f10 u292_0 hm_292
            exfalso; omega
          | succ n_292 ih_292 =>
            intro l6_292 v_partBegin_292 v_partEnd_292 f9 f10 u292_0 hm_292
            unfold w_X12_keepPattern_292
            unfold w_X12_keepPattern_292B
            refine ⟨fun c298 => ?_, fun c298 => ?_⟩
            · have f11 : v_newParts.toInt ≤ l6_292.toInt := i_le (a := v_newParts.toInt) (b := l6_292.toInt) rfl rfl c298
              refine ⟨i_in (by omega) (by omega), ?_⟩
              intro g354 eg354
              refine ⟨i_in (by omega) (by omega), ?_⟩
              intro g364 eg364
              have j_368 : ∀ n_368 : Nat, ∀ (l6_368 : Int32) (v_nameOf_368 : Nat → Int32), 1 ≤ l6_368.toInt → l6_368.toInt ≤ 10 → ((-1) * l6_368.toInt + 10).toNat < n_368 → w_X12_keepPattern_368 p1 v_newCaptures v_newNames Q x4 l4_26 v_isThere g354 g364 v_sort_26 v_value_26 v_least_26 v_most_26 v_holder_26 v_parts_26 v_end_26 v_size v_positions v_firstPart_26 v_mayEmpty v_inCase_26 v_partBegin_292 v_partEnd_292 v_waiting_26 v_waitingHolder_26 n_368 l6_368 v_nameOf_368 := by
                intro n_368
                induction n_368 with
                | zero =>
                  intro l6_368 v_nameOf_368 f12 f13 hm_368
                  exfalso; omega
                | succ n_368 ih_368 =>
                  intro l6_368 v_nameOf_368 f12 f13 hm_368
                  unfold w_X12_keepPattern_368
                  unfold w_X12_keepPattern_368B
                  refine ⟨fun c372 => ?_, fun c372 => ?_⟩
                  · have f14 : 10 ≤ l6_368.toInt := i_le (a := 10) (b := l6_368.toInt) rfl rfl c372
                    intro x416 ex416
                    have f15 : x416.toInt = l4_26.toInt - 1 := i_sub (a := l4_26.toInt) (b := 1) ex416 rfl rfl (by omega) (by omega)
                    have j_419 : ∀ n_419 : Nat, ∀ (l6_419 : Int32) (v_end_419 : Nat → Int32), 0 ≤ l6_419.toInt → l6_419.toInt + 1 ≤ v_newNodes.toInt → (zBk v_newSort v_newValue v_newLeast v_newMost v_newMany v_newPart v_sort_26 v_value_26 v_least_26 v_most_26 v_holder_26 v_parts_26 v_firstPart_26 v_end_419 (220 * p1.toInt) (420 * p1.toInt) v_newNodes.toInt v_newCaptures.toInt l6_419.toInt) → (zOb v_end v_end_419 (220 * p1.toInt)) → (l6_419.toInt + 2147483649).toNat < n_419 → w_X12_keepPattern_419 p1 Q x4 l4_26 v_isThere g354 g364 v_nameOf_368 v_sort_26 v_value_26 v_least_26 v_most_26 v_holder_26 v_parts_26 v_size v_positions v_firstPart_26 v_mayEmpty v_inCase_26 v_partBegin_292 v_partEnd_292 v_waiting_26 v_waitingHolder_26 n_419 l6_419 v_end_419 := by
                      intro n_419
                      induction n_419 with
                      | zero =>
                        intro l6_419 v_end_419 f16 f17 u419_0 u419_1 hm_419
                        exfalso; omega
                      | succ n_419 ih_419 =>
                        intro l6_419 v_end_419 f16 f17 u419_0 u419_1 hm_419
                        unfold w_X12_keepPattern_419
                        unfold w_X12_keepPattern_419B
                        refine ⟨fun c421 => ?_, fun c421 => ?_⟩
                        · have f18 : l6_419.toInt ≤ 0 := i_le (a := l6_419.toInt) (b := 0) rfl rfl c421
                          have hSl := zSl_mk u419_0 (by omega) u0 (by omega) (by omega) (by omega) (fun i i0 i1 => u292_0.1 i i0 (by omega))
                          have hMn := zMn_of hSl
                          intro x491 ex491
                          have f19 : x491.toInt = l4_26.toInt - 1 := i_sub (a := l4_26.toInt) (b := 1) ex491 rfl rfl (by omega) (by omega)
                          have j_494 : ∀ n_494 : Nat, ∀ (l6_494 : Int32) (v_size_494 : Nat → Int32) (v_positions_494 : Nat → Int32) (v_mayEmpty_494 : Nat → Bool), 0 ≤ l6_494.toInt + 1 → l6_494.toInt + 1 ≤ v_newNodes.toInt → (zMs v_sort_26 v_least_26 v_most_26 v_end_419 v_size_494 v_positions_494 (220 * p1.toInt) (l6_494.toInt + 1) v_newNodes.toInt) → (zOb v_size v_size_494 (220 * p1.toInt)) → (zOb v_positions v_positions_494 (220 * p1.toInt)) → (l6_494.toInt + 2147483649).toNat < n_494 → w_X12_keepPattern_494 p1 Q v_isThere g354 g364 v_nameOf_368 v_sort_26 v_value_26 v_least_26 v_most_26 v_holder_26 v_parts_26 v_end_419 v_firstPart_26 v_inCase_26 v_partBegin_292 v_partEnd_292 v_waiting_26 v_waitingHolder_26 n_494 l6_494 v_size_494 v_positions_494 v_mayEmpty_494 := by
                            intro n_494
                            induction n_494 with
                            | zero =>
                              intro l6_494 v_size_494 v_positions_494 v_mayEmpty_494 f20 f21 u494_0 u494_1 u494_2 hm_494
                              exfalso; omega
                            | succ n_494 ih_494 =>
                              intro l6_494 v_size_494 v_positions_494 v_mayEmpty_494 f20 f21 u494_0 u494_1 u494_2 hm_494
                              unfold w_X12_keepPattern_494
                              unfold w_X12_keepPattern_494B
                              refine ⟨fun c496 => ?_, fun c496 => ?_⟩
                              · have f22 : l6_494.toInt < 0 := i_lt (a := l6_494.toInt) (b := 0) rfl rfl c496
                                refine ⟨i_in (by omega) (by omega), ?_⟩
                                intro g518 eg518
                                exact hq g518 g354 g364 v_nameOf_368 v_sort_26 v_value_26 v_least_26 v_most_26 v_holder_26 v_parts_26 v_end_419 v_size_494 v_positions_494 v_firstPart_26 v_mayEmpty_494 v_inCase_26 v_partBegin_292 v_partEnd_292 v_waiting_26 v_waitingHolder_26 (by have hn9 : (-1 : Int) = l6_494.toInt := (by omega); exact zAll_put u1 eg518 eg354 eg364 ⟨u26_2.1, u26_2.2.1, u26_2.2.2.1, u26_2.2.2.2.1, u26_2.2.2.2.2.1, u26_2.2.2.2.2.2.1, u419_1, u26_2.2.2.2.2.2.2.2⟩ u292_0 u494_1 u494_2 (by rw [hnN]; exact hSl) (by rw [hnN]; exact (fun k k0 k1 k2 => u494_0 k (by omega) k1 k2)) (by omega)) (by exact fun j j0 j1 => zupdB_ne eg518 (by omega) j0 j1)
                              · have f23 : 0 ≤ l6_494.toInt := i_nlt (a := l6_494.toInt) (b := 0) rfl rfl c496
                                refine ok_X12_measure (gn9 := v_newNodes.toInt) (by omega) (by omega) (by omega) (by omega) (by exact hMn) (by exact u494_0) (by first | assumption | omega) (by first | assumption | omega) (fun r503_0 r503_1 r503_2 u503_0 u503_1 u503_2 => ?_)
                                intro x506 ex506
                                have f24 : x506.toInt = l6_494.toInt + (-1) := i_add (a := l6_494.toInt) (b := (-1)) ex506 rfl rfl (by omega) (by omega)
                                exact ih_494 x506 r503_0 r503_1 r503_2 (by omega) (by omega) (by first | exact (fun k k0 k1 k2 => by exfalso; omega) | (have hk9 : x506.toInt + 1 = l6_494.toInt := (by omega); rw [hk9]; exact u503_0)) (by first | exact zOb_rf | exact zOb_tr u494_1 u503_1) (by first | exact zOb_rf | exact zOb_tr u494_2 u503_2) (by have h8_0 := i_rng l6_494; have h8_1 := i_rng x506; omega)
                          exact ⟨(x491.toInt + 2147483649).toNat + 1, j_494   ((x491.toInt + 2147483649).toNat + 1) x491 v_size v_positions v_mayEmpty (by omega) (by omega) (by first | exact (fun k k0 k1 k2 => by exfalso; omega) | (have hk9 : x491.toInt + 1 = l6_494.toInt := (by omega); rw [hk9]; exact u503_0)) (by first | exact zOb_rf | exact zOb_tr u494_1 u503_1) (by first | exact zOb_rf | exact zOb_tr u494_2 u503_2) (by omega)⟩
                        · have f25 : 0 < l6_419.toInt := i_nle (a := l6_419.toInt) (b := 0) rfl rfl c421
                          intro x432 ex432
                          have f26 : x432.toInt = x4.toInt + l6_419.toInt := i_add (a := x4.toInt) (b := l6_419.toInt) ex432 rfl rfl (by omega) (by omega)
                          refine ⟨i_in (by omega) (by omega), ?_⟩
                          intro x433 ex433
                          have f27 : 0 ≤ x433.toInt := by have h9 := zBk_h (k := l6_419.toInt) u419_0 ex433 (by omega) (by omega) (by omega); omega
                          have f28 : x433.toInt + 1 ≤ l6_419.toInt := by have h9 := zBk_h (k := l6_419.toInt) u419_0 ex433 (by omega) (by omega) (by omega); omega
                          intro x434 ex434
                          have f29 : x434.toInt = x4.toInt + x433.toInt := i_add (a := x4.toInt) (b := x433.toInt) ex434 rfl rfl (by omega) (by omega)
                          refine ⟨i_in (by omega) (by omega), ?_⟩
                          intro x449 ex449
                          intro x457 ex457
                          have f30 : x457.toInt = x4.toInt + l6_419.toInt := i_add (a := x4.toInt) (b := l6_419.toInt) ex457 rfl rfl (by omega) (by omega)
                          refine ⟨i_in (by omega) (by omega), ?_⟩
                          intro x458 ex458
                          have j_481 : ∀ (s0_481 : Int32), (zMx v_end_419 x434.toInt x457.toInt s0_481.toInt) → w_X12_keepPattern_481 Q (w_X12_keepPattern_419 p1 Q x4 l4_26 v_isThere g354 g364 v_nameOf_368 v_sort_26 v_value_26 v_least_26 v_most_26 v_holder_26 v_parts_26 v_size v_positions v_firstPart_26 v_mayEmpty v_inCase_26 v_partBegin_292 v_partEnd_292 v_waiting_26 v_waitingHolder_26 n_419) s0_481 x434 l6_419 v_end_419 := by
                            intro s0_481 u481_0
                            unfold w_X12_keepPattern_481
                            refine ⟨i_in (by omega) (by omega), ?_⟩
                            intro g481 eg481
                            intro x482 ex482
                            have f31 : x482.toInt = l6_419.toInt + (-1) := i_add (a := l6_419.toInt) (b := (-1)) ex482 rfl rfl (by omega) (by omega)
                            exact ih_419 x482 g481 (by omega) (by omega) (by first | exact zBk_w u419_0 ex433 eg481 u481_0 (by omega) (by omega) (by omega) (by omega) (by omega) (by omega) (by omega) | (have hk9 : x482.toInt = l4_26.toInt - 1 := (by omega); rw [hk9]; exact hbk)) (by first | exact zOb_w u419_1 eg481 (by omega) | exact u26_2.2.2.2.2.2.2.1) (by have h8_0 := i_rng l6_419; have h8_1 := i_rng x482; omega)
                          refine ⟨fun c459 => ?_, fun c459 => ?_⟩
                          · have f32 : x449.toInt ≤ x458.toInt := i_le (a := x449.toInt) (b := x458.toInt) rfl rfl c459
                            intro x479 ex479
                            have f33 : x479.toInt = x4.toInt + l6_419.toInt := i_add (a := x4.toInt) (b := l6_419.toInt) ex479 rfl rfl (by omega) (by omega)
                            refine ⟨i_in (by omega) (by omega), ?_⟩
                            intro x480 ex480
                            exact j_481 x480 (by first | exact Or.inl ⟨zg_at ex468, by rw [← zg_at ex449, ← zg_at2 (k := x457.toInt) ex458 (by omega)]; omega⟩ | exact Or.inr ⟨zg_at2 ex480 (by omega), by rw [← zg_at ex449, ← zg_at2 (k := x457.toInt) ex458 (by omega)]; omega⟩)
                          · have f34 : x458.toInt < x449.toInt := i_nle (a := x449.toInt) (b := x458.toInt) rfl rfl c459
                            refine ⟨i_in (by omega) (by omega), ?_⟩
                            intro x468 ex468
                            have f35 : x468.toInt = x449.toInt := congrArg Int32.toInt (ex468.trans ex449.symm)
                            exact j_481 x468 (by first | exact Or.inl ⟨zg_at ex468, by rw [← zg_at ex449, ← zg_at2 (k := x457.toInt) ex458 (by omega)]; omega⟩ | exact Or.inr ⟨zg_at2 ex480 (by omega), by rw [← zg_at ex449, ← zg_at2 (k := x457.toInt) ex458 (by omega)]; omega⟩)
                    exact ⟨(x416.toInt + 2147483649).toNat + 1, j_419   ((x416.toInt + 2147483649).toNat + 1) x416 v_end_26 (by omega) (by omega) (by first | exact zBk_w u419_0 ex433 eg481 u481_0 (by omega) (by omega) (by omega) (by omega) (by omega) (by omega) (by omega) | (have hk9 : x416.toInt = l4_26.toInt - 1 := (by omega); rw [hk9]; exact hbk)) (by first | exact zOb_w u419_1 eg481 (by omega) | exact u26_2.2.2.2.2.2.2.1) (by omega)⟩
                  · have f36 : l6_368.toInt < 10 := i_nle (a := 10) (b := l6_368.toInt) rfl rfl c372
                    intro x382 ex382
                    have f37 : x382.toInt = 10 * p1.toInt := i_mul (a := 10) (b := p1.toInt) ex382 rfl rfl (by omega) (by omega)
                    intro x385 ex385
                    have f38 : x385.toInt = x382.toInt + l6_368.toInt := i_add (a := x382.toInt) (b := l6_368.toInt) ex385 rfl rfl (by omega) (by omega)
                    have j_406 : ∀ (s0_406 : Int32), ((s0_406.toInt = 0 ∧ v_newCaptures.toInt + 1 ≤ l6_368.toInt) ∨ (l6_368.toInt ≤ v_newCaptures.toInt)) → w_X12_keepPattern_406 Q (w_X12_keepPattern_368 p1 v_newCaptures v_newNames Q x4 l4_26 v_isThere g354 g364 v_sort_26 v_value_26 v_least_26 v_most_26 v_holder_26 v_parts_26 v_end_26 v_size v_positions v_firstPart_26 v_mayEmpty v_inCase_26 v_partBegin_292 v_partEnd_292 v_waiting_26 v_waitingHolder_26 n_368) s0_406 x385 l6_368 v_nameOf_368 := by
                      intro s0_406 f39
                      unfold w_X12_keepPattern_406
                      refine ⟨i_in (by omega) (by omega), ?_⟩
                      intro g406 eg406
                      intro x407 ex407
                      have f40 : x407.toInt = l6_368.toInt + 1 := i_add (a := l6_368.toInt) (b := 1) ex407 rfl rfl (by omega) (by omega)
                      exact ih_368 x407 g406 (by omega) (by omega) (by have h8_0 := i_rng l6_368; have h8_1 := i_rng x407; omega)
                    refine ⟨fun c392 => ?_, fun c392 => ?_⟩
                    · have f41 : v_newCaptures.toInt < l6_368.toInt := i_lt (a := v_newCaptures.toInt) (b := l6_368.toInt) rfl rfl c392
                      exact j_406 0 (by omega)
                    · have f42 : l6_368.toInt ≤ v_newCaptures.toInt := i_nlt (a := v_newCaptures.toInt) (b := l6_368.toInt) rfl rfl c392
                      refine ⟨i_in (by omega) (by omega), ?_⟩
                      intro x401 ex401
                      exact j_406 x401 (by omega)
              exact ⟨(9 : Int).toNat + 1, j_368   ((9 : Int).toNat + 1) 1 v_nameOf (by omega) (by omega) (by omega)⟩
            · have f43 : l6_292.toInt < v_newParts.toInt := i_nle (a := v_newParts.toInt) (b := l6_292.toInt) rfl rfl c298
              intro x309 ex309
              have f44 : x309.toInt = 420 * p1.toInt := i_mul (a := 420) (b := p1.toInt) ex309 rfl rfl (by omega) (by omega)
              intro x312 ex312
              have f45 : x312.toInt = x309.toInt + l6_292.toInt := i_add (a := x309.toInt) (b := l6_292.toInt) ex312 rfl rfl (by omega) (by omega)
              refine ⟨i_in (by omega) (by omega), ?_⟩
              intro x319 ex319
              refine ⟨i_in (by omega) (by omega), ?_⟩
              intro g320 eg320
              intro x329 ex329
              have f46 : x329.toInt = 420 * p1.toInt := i_mul (a := 420) (b := p1.toInt) ex329 rfl rfl (by omega) (by omega)
              intro x332 ex332
              have f47 : x332.toInt = x329.toInt + l6_292.toInt := i_add (a := x329.toInt) (b := l6_292.toInt) ex332 rfl rfl (by omega) (by omega)
              refine ⟨i_in (by omega) (by omega), ?_⟩
              intro x339 ex339
              refine ⟨i_in (by omega) (by omega), ?_⟩
              intro g340 eg340
              intro x341 ex341
              have f48 : x341.toInt = l6_292.toInt + 1 := i_add (a := l6_292.toInt) (b := 1) ex341 rfl rfl (by omega) (by omega)
              exact ih_292 x341 g320 g340 (by omega) (by omega) (by first | exact zCy_0 | exact zCy_w u292_0 eg320 eg340 ex319 ex339 (by omega) (by omega) (by omega) (by omega) (by omega)) (by have h8_0 := i_rng l6_292; have h8_1 := i_rng x341; omega)
        exact ⟨(420 : Int).toNat + 1, j_292   ((420 : Int).toNat + 1) 0 v_partBegin v_partEnd (by omega) (by omega) (by first | exact zCy_0 | exact zCy_w u292_0 eg320 eg340 ex319 ex339 (by omega) (by omega) (by omega) (by omega) (by omega)) (by omega)⟩
      · have f49 : 0 < l5_26.toInt := i_nle (a := l5_26.toInt) (b := 0) rfl rfl c28
        intro x31 ex31
        have f50 : x31.toInt = l5_26.toInt + (-1) := i_add (a := l5_26.toInt) (b := (-1)) ex31 rfl rfl (by omega) (by omega)
        refine ⟨i_in (by omega) (by omega), ?_⟩
        intro x40 ex40
        have f51 : 0 ≤ x40.toInt := by have h9 := zKp_top u26_0 (by omega); have h8 := zg_at2 (k := l5_26.toInt - 1) ex40 (by omega); omega
        have f52 : x40.toInt + 1 ≤ v_newNodes.toInt := by have h9 := zKp_top u26_0 (by omega); have h8 := zg_at2 (k := l5_26.toInt - 1) ex40 (by omega); omega
        refine ⟨i_in (by omega) (by omega), ?_⟩
        intro x49 ex49
        have f53 : 0 ≤ x49.toInt + 1 := by have h9 := zKp_top u26_0 (by omega); have h8 := zg_at2 (k := l5_26.toInt - 1) ex49 (by omega); omega
        have f54 : x49.toInt + 1 ≤ l4_26.toInt := by have h9 := zKp_top u26_0 (by omega); have h8 := zg_at2 (k := l5_26.toInt - 1) ex49 (by omega); omega
        intro x55 ex55
        have f55 : x55.toInt = x4.toInt + l4_26.toInt := i_add (a := x4.toInt) (b := l4_26.toInt) ex55 rfl rfl (by omega) (by omega)
        refine ⟨i_in (by omega) (by omega), ?_⟩
        intro x70 ex70
        refine ⟨i_in (by omega) (by omega), ?_⟩
        intro g71 eg71
        refine ⟨i_in (by omega) (by omega), ?_⟩
        intro x84 ex84
        refine ⟨i_in (by omega) (by omega), ?_⟩
        intro g85 eg85
        refine ⟨i_in (by omega) (by omega), ?_⟩
        intro x98 ex98
        refine ⟨i_in (by omega) (by omega), ?_⟩
        intro g99 eg99
        refine ⟨i_in (by omega) (by omega), ?_⟩
        intro x112 ex112
        refine ⟨i_in (by omega) (by omega), ?_⟩
        intro g113 eg113
        refine ⟨i_in (by omega) (by omega), ?_⟩
        intro g122 eg122
        refine ⟨i_in (by omega) (by omega), ?_⟩
        intro x135 ex135
        refine ⟨i_in (by omega) (by omega), ?_⟩
        intro g136 eg136
        intro x147 ex147
        have f56 : x147.toInt = 420 * p1.toInt := i_mul (a := 420) (b := p1.toInt) ex147 rfl rfl (by omega) (by omega)
        refine ⟨i_in (by omega) (by omega), ?_⟩
        intro x154 ex154
        intro x155 ex155
        refine ⟨i_in (by omega) (by omega), ?_⟩
        intro g156 eg156
        intro x166 ex166
        have f57 : x166.toInt = l4_26.toInt + 1 := i_add (a := l4_26.toInt) (b := 1) ex166 rfl rfl (by omega) (by omega)
        refine ⟨i_in (by omega) (by omega), ?_⟩
        intro g167 eg167
        have j_210 : ∀ (s0_210 : Int32), ((s0_210.toInt = 1 ∧ 0 ≤ x49.toInt) ∨ (s0_210.toInt = 0)) → w_X12_keepPattern_210 v_newFirst v_newNext Q (w_X12_keepPattern_26 p1 v_newParts v_newCaptures v_newSort v_newValue v_newLeast v_newMost v_newFirst v_newNext v_newMany v_newPart v_newBegin v_newEnd v_newNames Q x4 v_isThere v_many v_captures v_nameOf v_size v_positions v_mayEmpty v_partBegin v_partEnd n_26) s0_210 x55 l4_26 x31 x40 x49 g71 g85 g99 g113 g122 g136 g167 g156 v_inCase_26 v_waiting_26 v_waitingHolder_26 := by
          intro s0_210 f58
          unfold w_X12_keepPattern_210
          refine ⟨i_in (by omega) (by omega), ?_⟩
          intro g210 eg210
          refine ⟨i_in (by omega) (by omega), ?_⟩
          intro x217 ex217
          have hp9 := zKp_ptr u26_0 (by omega)
          rw [← zg_at2 (k := l5_26.toInt - 1) ex40 (by omega), ← zg_at ex217] at hp9
          have f59 : 0 ≤ x217.toInt + 1 := by omega
          have j_247 : ∀ (l5_247 : Int32) (v_waiting_247 : Nat → Int32) (v_waitingHolder_247 : Nat → Int32), l5_26.toInt ≤ l5_247.toInt + 1 → l5_247.toInt ≤ l5_26.toInt → ((l5_247.toInt = x31.toInt ∧ x217.toInt + 1 ≤ 0) ∨ (0 ≤ x217.toInt ∧ l5_247.toInt = x31.toInt + 1)) → (zPu v_newNext v_waiting_26 v_waitingHolder_26 v_waiting_247 v_waitingHolder_247 l5_26.toInt l5_247.toInt x40.toInt x49.toInt) → w_X12_keepPattern_247 v_newFirst Q (w_X12_keepPattern_26 p1 v_newParts v_newCaptures v_newSort v_newValue v_newLeast v_newMost v_newFirst v_newNext v_newMany v_newPart v_newBegin v_newEnd v_newNames Q x4 v_isThere v_many v_captures v_nameOf v_size v_positions v_mayEmpty v_partBegin v_partEnd n_26) l4_26 l5_247 x40 g71 g85 g99 g113 g122 g136 g167 g156 g210 v_waiting_247 v_waitingHolder_247 := by
            intro l5_247 v_waiting_247 v_waitingHolder_247 f60 f61 f62 u247_0
            unfold w_X12_keepPattern_247
            refine ⟨i_in (by omega) (by omega), ?_⟩
            intro x253 ex253
            have hq9 := zKp_ptr u26_0 (by omega)
            rw [← zg_at2 (k := l5_26.toInt - 1) ex40 (by omega), ← zg_at ex253] at hq9
            have f63 : 0 ≤ x253.toInt + 1 := by omega
            have j_283 : ∀ (l5_283 : Int32) (v_waiting_283 : Nat → Int32) (v_waitingHolder_283 : Nat → Int32), l5_26.toInt ≤ l5_283.toInt + 1 → l5_283.toInt ≤ l5_26.toInt + 1 → ((l5_283.toInt = l5_247.toInt ∧ x253.toInt + 1 ≤ 0) ∨ (0 ≤ x253.toInt ∧ l5_283.toInt = l5_247.toInt + 1)) → (zPv v_newFirst v_waiting_247 v_waitingHolder_247 v_waiting_283 v_waitingHolder_283 l5_247.toInt l5_283.toInt x40.toInt l4_26.toInt) → w_X12_keepPattern_283 Q (w_X12_keepPattern_26 p1 v_newParts v_newCaptures v_newSort v_newValue v_newLeast v_newMost v_newFirst v_newNext v_newMany v_newPart v_newBegin v_newEnd v_newNames Q x4 v_isThere v_many v_captures v_nameOf v_size v_positions v_mayEmpty v_partBegin v_partEnd n_26) l4_26 l5_283 g71 g85 g99 g113 g122 g136 g167 g156 g210 v_waiting_283 v_waitingHolder_283 := by
              intro l5_283 v_waiting_283 v_waitingHolder_283 f64 f65 f66 u283_0
              unfold w_X12_keepPattern_283
              intro x283 ex283
              have f67 : x283.toInt = l4_26.toInt + 1 := i_add (a := l4_26.toInt) (b := 1) ex283 rfl rfl (by omega) (by omega)
              exact ih_26 x283 l5_283 g71 g85 g99 g113 g122 g136 g167 g156 g210 v_waiting_283 v_waitingHolder_283 (by omega) (by omega) (by omega) (by omega) (by first | exact zKp_0 u0.1 (by subst eg18; exact zg_eq (i := 0)) (by subst eg25; exact zg_eq (i := 0)) | exact zKp_w u26_0 ex40 ex49 eg71 eg85 eg99 eg113 eg122 eg136 eg156 ex70 ex84 ex98 ex112 ex135 ex154 u247_0 u283_0 (zFn_p u0.2.1 ex154 ex155 (by omega) (by omega) (by omega) (by omega)) (by omega) (by omega) (by omega) (by omega) (by omega) (by omega) (by omega)) (by first | exact (fun j j0 j1 => by exfalso; have e0 : (0 : Int32).toInt = 0 := rfl; omega) | exact zEi_w u26_1 eg167 (by omega) (by omega) (by omega) (by omega) (by omega)) (by first | exact zO8_rf | exact zO8_w u26_2 eg71 eg85 eg99 eg113 eg122 eg136 eg167 eg156 (by omega)) (by have h8_0 := i_rng l4_26; have h8_1 := i_rng x283; omega)
            refine ⟨fun c254 => ?_, fun c254 => ?_⟩
            · have f68 : x253.toInt < 0 := i_lt (a := x253.toInt) (b := 0) rfl rfl c254
              exact j_283 l5_247 v_waiting_247 v_waitingHolder_247 (by omega) (by omega) (by omega) (by first | exact zPv_a ex253 (by omega) (by omega) | exact zPv_b ex253 ex269 eg270 eg279 (by omega) (by omega) (by omega) (by omega))
            · have f69 : 0 ≤ x253.toInt := i_nlt (a := x253.toInt) (b := 0) rfl rfl c254
              refine ⟨i_in (by omega) (by omega), ?_⟩
              intro x269 ex269
              have f70 : x269.toInt = x253.toInt := congrArg Int32.toInt (ex269.trans ex253.symm)
              refine ⟨i_in (by omega) (by omega), ?_⟩
              intro g270 eg270
              refine ⟨i_in (by omega) (by omega), ?_⟩
              intro g279 eg279
              intro x280 ex280
              have f71 : x280.toInt = l5_247.toInt + 1 := i_add (a := l5_247.toInt) (b := 1) ex280 rfl rfl (by omega) (by omega)
              exact j_283 x280 g270 g279 (by omega) (by omega) (by omega) (by first | exact zPv_a ex253 (by omega) (by omega) | exact zPv_b ex253 ex269 eg270 eg279 (by omega) (by omega) (by omega) (by omega))
          refine ⟨fun c218 => ?_, fun c218 => ?_⟩
          · have f72 : x217.toInt < 0 := i_lt (a := x217.toInt) (b := 0) rfl rfl c218
            exact j_247 x31 v_waiting_26 v_waitingHolder_26 (by omega) (by omega) (by omega) (by first | exact zPu_a ex217 (by omega) (by omega) | exact zPu_b ex217 ex233 eg234 eg243 (by omega) (by omega) (by omega) (by omega))
          · have f73 : 0 ≤ x217.toInt := i_nlt (a := x217.toInt) (b := 0) rfl rfl c218
            refine ⟨i_in (by omega) (by omega), ?_⟩
            intro x233 ex233
            have f74 : x233.toInt = x217.toInt := congrArg Int32.toInt (ex233.trans ex217.symm)
            refine ⟨i_in (by omega) (by omega), ?_⟩
            intro g234 eg234
            refine ⟨i_in (by omega) (by omega), ?_⟩
            intro g243 eg243
            intro x244 ex244
            have f75 : x244.toInt = x31.toInt + 1 := i_add (a := x31.toInt) (b := 1) ex244 rfl rfl (by omega) (by omega)
            exact j_247 x244 g234 g243 (by omega) (by omega) (by omega) (by first | exact zPu_a ex217 (by omega) (by omega) | exact zPu_b ex217 ex233 eg234 eg243 (by omega) (by omega) (by omega) (by omega))
        have j_209 : ((x49.toInt + 1 ≤ 0) ∨ (0 ≤ x49.toInt)) → w_X12_keepPattern_209 v_newFirst v_newNext Q (w_X12_keepPattern_26 p1 v_newParts v_newCaptures v_newSort v_newValue v_newLeast v_newMost v_newFirst v_newNext v_newMany v_newPart v_newBegin v_newEnd v_newNames Q x4 v_isThere v_many v_captures v_nameOf v_size v_positions v_mayEmpty v_partBegin v_partEnd n_26) x55 l4_26 x31 x40 x49 g71 g85 g99 g113 g122 g136 g167 g156 v_inCase_26 v_waiting_26 v_waitingHolder_26 := by
          intro f76
          unfold w_X12_keepPattern_209
          exact j_210 0 (by omega)
        refine ⟨fun c176 => ?_, fun c176 => ?_⟩
        · have f77 : x49.toInt < 0 := i_lt (a := x49.toInt) (b := 0) rfl rfl c176
          exact j_209  (by omega)
        · have f78 : 0 ≤ x49.toInt := i_nlt (a := x49.toInt) (b := 0) rfl rfl c176
          intro x186 ex186
          have f79 : x186.toInt = x4.toInt + x49.toInt := i_add (a := x4.toInt) (b := x49.toInt) ex186 rfl rfl (by omega) (by omega)
          refine ⟨i_in (by omega) (by omega), ?_⟩
          intro x187 ex187
          have f80 : (0 ≤ x187.toInt ∧ x187.toInt ≤ 1) := i_bz ex187
          have j_205 : w_X12_keepPattern_205 v_newFirst v_newNext Q (w_X12_keepPattern_26 p1 v_newParts v_newCaptures v_newSort v_newValue v_newLeast v_newMost v_newFirst v_newNext v_newMany v_newPart v_newBegin v_newEnd v_newNames Q x4 v_isThere v_many v_captures v_nameOf v_size v_positions v_mayEmpty v_partBegin v_partEnd n_26) x55 l4_26 x31 x40 x49 g71 g85 g99 g113 g122 g136 g167 g156 v_inCase_26 v_waiting_26 v_waitingHolder_26 := by
            unfold w_X12_keepPattern_205
            exact j_210 1 (by omega)
          refine ⟨fun c188 => ?_, fun c188 => ?_⟩
          · have f81 : x187.toInt ≠ 0 := i_ne (a := x187.toInt) (b := 0) rfl rfl c188
            exact j_205  
          · have f82 : x187.toInt = 0 := i_eq (a := x187.toInt) (b := 0) rfl rfl c188
            intro x198 ex198
            have f83 : x198.toInt = x4.toInt + x49.toInt := i_add (a := x4.toInt) (b := x49.toInt) ex198 rfl rfl (by omega) (by omega)
            refine ⟨i_in (by omega) (by omega), ?_⟩
            intro x199 ex199
            refine ⟨fun c202 => ?_, fun c202 => ?_⟩
            · have f84 : x199.toInt ≠ 11 := i_ne (a := x199.toInt) (b := 11) rfl rfl c202
              exact j_209  (by omega)
            · have f85 : x199.toInt = 11 := i_eq (a := x199.toInt) (b := 11) rfl rfl c202
              exact j_205  
  exact ⟨(420 : Int).toNat + 1, j_26   ((420 : Int).toNat + 1) 0 1 v_sort v_value v_least v_most v_holder v_parts v_end v_firstPart v_inCase g18 g25 (by omega) (by omega) (by omega) (by omega) (by first | exact zKp_0 u0.1 (by subst eg18; exact zg_eq (i := 0)) (by subst eg25; exact zg_eq (i := 0)) | exact zKp_w u26_0 ex40 ex49 eg71 eg85 eg99 eg113 eg122 eg136 eg156 ex70 ex84 ex98 ex112 ex135 ex154 u247_0 u283_0 (zFn_p u0.2.1 ex154 ex155 (by omega) (by omega) (by omega) (by omega)) (by omega) (by omega) (by omega) (by omega) (by omega) (by omega) (by omega)) (by first | exact (fun j j0 j1 => by exfalso; have e0 : (0 : Int32).toInt = 0 := rfl; omega) | exact zEi_w u26_1 eg167 (by omega) (by omega) (by omega) (by omega) (by omega)) (by first | exact zO8_rf | exact zO8_w u26_2 eg71 eg85 eg99 eg113 eg122 eg136 eg167 eg156 (by omega)) (by omega)⟩
