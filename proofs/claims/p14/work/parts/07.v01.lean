set_option maxHeartbeats 4000000 in
theorem ok_X12_closeChoice {v_newNodes : Int32} {v_depth : Int32} {v_newSort : Nat → Int32} {v_newValue : Nat → Int32} {v_newLeast : Nat → Int32} {v_newMost : Nat → Int32} {v_newFirst : Nat → Int32} {v_newNext : Nat → Int32} {v_newMany : Nat → Int32} {v_newPart : Nat → Int32} {v_rowFirst : Nat → Int32} {v_rowLast : Nat → Int32} {v_rowMany : Nat → Int32} {v_rowsFirst : Nat → Int32} {v_rowsLast : Nat → Int32} {v_rowsMany : Nat → Int32} {v_newBegin : Nat → Int32} {v_newEnd : Nat → Int32} {v_groupSort : Nat → Int32} {v_groupValue : Nat → Int32} {v_fault : Int32} {v_newParts : Int32} {v_newCaptures : Int32} {gi9 : Int} {ga9 : Int} {gw9 : Int} {Q : Int32 → Int32 → (Nat → Int32) → (Nat → Int32) → (Nat → Int32) → (Nat → Int32) → (Nat → Int32) → (Nat → Int32) → (Nat → Int32) → (Nat → Int32) → (Nat → Int32) → (Nat → Int32) → (Nat → Int32) → (Nat → Int32) → (Nat → Int32) → (Nat → Int32) → Prop} (a0 : 0 ≤ v_depth.toInt) (a1 : v_depth.toInt ≤ 11) (a2 : 0 ≤ v_newNodes.toInt) (a3 : v_newNodes.toInt ≤ 257) (b0 : qp2 (fun k m l => (m = 0) ∨ (0 ≤ l ∧ l ≤ 259)) v_rowMany v_rowFirst 0 12) (b1 : qp2 (fun k m l => (m = 0) ∨ (0 ≤ l ∧ l ≤ 259)) v_rowsMany v_rowsFirst 0 12) (b2 : qp2 (fun k m l => (m = 0) ∨ (0 ≤ l ∧ l ≤ 259)) v_rowMany v_rowLast 0 12) (b3 : qp2 (fun k m l => (m = 0) ∨ (0 ≤ l ∧ l ≤ 259)) v_rowsMany v_rowsLast 0 12) (b4 : rp (fun k v => -1 ≤ v ∧ v ≤ 259) v_rowFirst 0 12) (b5 : rp (fun k v => -1 ≤ v ∧ v ≤ 259) v_rowLast 0 12) (b6 : rp (fun k v => -1 ≤ v ∧ v ≤ 259) v_rowsFirst 0 12) (b7 : rp (fun k v => -1 ≤ v ∧ v ≤ 259) v_rowsLast 0 12) (u0 : zRS v_fault.toInt v_newSort v_newValue v_newLeast v_newMost v_newFirst v_newNext v_newMany v_newPart v_newBegin v_newEnd v_rowFirst v_rowLast v_rowMany v_rowsFirst v_rowsLast v_rowsMany v_groupSort v_groupValue v_depth.toInt v_newNodes.toInt v_newParts.toInt v_newCaptures.toInt gi9 ga9 gw9) (hq : ∀ (r : Int32) (ov_newNodes : Int32) (ov_newSort : Nat → Int32) (ov_newValue : Nat → Int32) (ov_newLeast : Nat → Int32) (ov_newMost : Nat → Int32) (ov_newFirst : Nat → Int32) (ov_newNext : Nat → Int32) (ov_newMany : Nat → Int32) (ov_newPart : Nat → Int32) (ov_rowFirst : Nat → Int32) (ov_rowLast : Nat → Int32) (ov_rowMany : Nat → Int32) (ov_rowsFirst : Nat → Int32) (ov_rowsLast : Nat → Int32) (ov_rowsMany : Nat → Int32), v_newNodes.toInt ≤ ov_newNodes.toInt → ((v_newNodes.toInt ≤ r.toInt ∧ r.toInt ≤ v_newNodes.toInt + 1 ∧ ov_newNodes.toInt = r.toInt + 1) ∨ (v_newNodes.toInt ≤ ov_newNodes.toInt ∧ ov_newNodes.toInt ≤ v_newNodes.toInt + 1 ∧ 0 ≤ r.toInt + 1 ∧ r.toInt ≤ 259)) → 0 ≤ r.toInt → qp2 (fun k m l => (m = 0) ∨ (0 ≤ l ∧ l ≤ 259)) v_rowsMany ov_rowsFirst 0 12 → rp (fun k v => -1 ≤ v ∧ v ≤ 259) ov_rowsFirst 0 12 → qp2 (fun k m l => (m = 0) ∨ (0 ≤ l ∧ l ≤ 259)) v_rowsMany ov_rowsLast 0 12 → rp (fun k v => -1 ≤ v ∧ v ≤ 259) ov_rowsLast 0 12 → qp2 (fun k m l => (m = 0) ∨ (0 ≤ l ∧ l ≤ 259)) ov_rowsMany ov_rowsFirst 0 12 → qp2 (fun k m l => (m = 0) ∨ (0 ≤ l ∧ l ≤ 259)) ov_rowsMany ov_rowsLast 0 12 → rp (fun k v => -1 ≤ v ∧ v ≤ 259) ov_rowFirst 0 12 → rp (fun k v => -1 ≤ v ∧ v ≤ 259) ov_rowLast 0 12 → qp2 (fun k m l => (m = 0) ∨ (0 ≤ l ∧ l ≤ 259)) ov_rowMany ov_rowFirst 0 12 → qp2 (fun k m l => (m = 0) ∨ (0 ≤ l ∧ l ≤ 259)) ov_rowMany ov_rowLast 0 12 → qp2 (fun k m l => (m = 0) ∨ (0 ≤ l ∧ l ≤ 259)) ov_rowMany v_rowFirst 0 12 → qp2 (fun k m l => (m = 0) ∨ (0 ≤ l ∧ l ≤ 259)) ov_rowMany v_rowLast 0 12 → (zRT v_fault.toInt ov_newSort ov_newValue ov_newLeast ov_newMost ov_newFirst ov_newNext ov_newMany ov_newPart v_newBegin v_newEnd ov_rowFirst ov_rowLast ov_rowMany ov_rowsFirst ov_rowsLast ov_rowsMany v_groupSort v_groupValue v_depth.toInt r.toInt ov_newNodes.toInt v_newParts.toInt v_newCaptures.toInt gi9 ga9 (gw9 + 12 + 12)) → Q r ov_newNodes ov_newSort ov_newValue ov_newLeast ov_newMost ov_newFirst ov_newNext ov_newMany ov_newPart ov_rowFirst ov_rowLast ov_rowMany ov_rowsFirst ov_rowsLast ov_rowsMany) : w_X12_closeChoice v_newNodes v_depth v_newSort v_newValue v_newLeast v_newMost v_newFirst v_newNext v_newMany v_newPart v_rowFirst v_rowLast v_rowMany v_rowsFirst v_rowsLast v_rowsMany Q := by
  have q_t : (bz true).toInt = 1 := rfl
  have q_f : (bz false).toInt = 0 := rfl
  have q_0 : (0 : Int32).toInt = 0 := rfl
  have q_6 : (6 : Int32).toInt = 6 := rfl
  unfold w_X12_closeChoice
  refine ok_X12_closeRow (v_newBegin := v_newBegin) (v_newEnd := v_newEnd) (v_groupSort := v_groupSort) (v_groupValue := v_groupValue) (v_fault := v_fault) (v_newParts := v_newParts) (v_newCaptures := v_newCaptures) (gi9 := _) (ga9 := _) (gw9 := _) (by omega) (by omega) (by omega) (by omega) (qp2_mono b0 (by omega) (by omega)) (qp2_mono b1 (by omega) (by omega)) (qp2_mono b2 (by omega) (by omega)) (qp2_mono b3 (by omega) (by omega)) (rp_mono b4 (by omega) (by omega)) (rp_mono b5 (by omega) (by omega)) (rp_mono b6 (by omega) (by omega)) (rp_mono b7 (by omega) (by omega)) (by first | assumption | omega) (fun r1_0 r1_1 r1_2 r1_3 r1_4 r1_5 r1_6 r1_7 r1_8 r1_9 r1_10 r1_11 r1_12 r1_13 r1_14 f1 f2 h3 h4 h5 h6 h7 h8 h9 h10 h11 h12 h13 h14 u1_0 => ?_)
  refine ⟨i_in (by omega) (by omega), ?_⟩
  intro x12 ex12
  have f15 : x12.toInt = (r1_14 v_depth.toNatClampNeg).toInt := congrArg Int32.toInt ex12
  have f16 : (((r1_14 v_depth.toNatClampNeg).toInt = 0) ∨ (0 ≤ (r1_12 v_depth.toNatClampNeg).toInt ∧ (r1_12 v_depth.toNatClampNeg).toInt ≤ 259)) := by have h9 := qp2_get (P := (fun k m l => (m = 0) ∨ (0 ≤ l ∧ l ≤ 259))) (a := v_depth.toInt) h7 rfl (by omega) (by omega) (by omega); omega
  have f17 : (((r1_14 v_depth.toNatClampNeg).toInt = 0) ∨ (0 ≤ (r1_13 v_depth.toNatClampNeg).toInt ∧ (r1_13 v_depth.toNatClampNeg).toInt ≤ 259)) := by have h9 := qp2_get (P := (fun k m l => (m = 0) ∨ (0 ≤ l ∧ l ≤ 259))) (a := v_depth.toInt) h8 rfl (by omega) (by omega) (by omega); omega
  refine ⟨fun c14 => ?_, fun c14 => ?_⟩
  · have f18 : x12.toInt ≠ 1 := i_ne (a := x12.toInt) (b := 1) rfl rfl c14
    refine ok_X12_made (by omega) (by omega) (fun r31 r31_0 r31_1 r31_2 r31_3 r31_4 r31_5 r31_6 r31_7 r31_8 f19 f20 u31_0 => ?_)
    refine ⟨i_in (by omega) (by omega), ?_⟩
    intro x48 ex48
    have f21 : x48.toInt = (r1_12 v_depth.toNatClampNeg).toInt := congrArg Int32.toInt ex48
    have f22 : (((v_rowsMany v_depth.toNatClampNeg).toInt = 0) ∨ (0 ≤ (r1_12 v_depth.toNatClampNeg).toInt ∧ (r1_12 v_depth.toNatClampNeg).toInt ≤ 259)) := by have h9 := qp2_get (P := (fun k m l => (m = 0) ∨ (0 ≤ l ∧ l ≤ 259))) (a := v_depth.toInt) h3 rfl (by omega) (by omega) (by omega); omega
    have f23 : (((r1_14 v_depth.toNatClampNeg).toInt = 0) ∨ (0 ≤ (r1_12 v_depth.toNatClampNeg).toInt ∧ (r1_12 v_depth.toNatClampNeg).toInt ≤ 259)) := by have h9 := qp2_get (P := (fun k m l => (m = 0) ∨ (0 ≤ l ∧ l ≤ 259))) (a := v_depth.toInt) h7 rfl (by omega) (by omega) (by omega); omega
    have f24 : 0 ≤ x48.toInt + 1 ∧ x48.toInt ≤ 259 := by have h9 := rp_get (P := (fun k v => -1 ≤ v ∧ v ≤ 259)) (a := v_depth.toInt) h4 ex48 rfl (by omega) (by omega) (by omega); omega
    refine ⟨i_in (by omega) (by omega), ?_⟩
    intro g49 eg49
    refine ⟨i_in (by omega) (by omega), ?_⟩
    intro x63 ex63
    have f25 : x63.toInt = x12.toInt := congrArg Int32.toInt (ex63.trans ex12.symm)
    have f26 : x63.toInt = (r1_14 v_depth.toNatClampNeg).toInt := congrArg Int32.toInt ex63
    have f27 : (((r1_14 v_depth.toNatClampNeg).toInt = 0) ∨ (0 ≤ (r1_12 v_depth.toNatClampNeg).toInt ∧ (r1_12 v_depth.toNatClampNeg).toInt ≤ 259)) := by have h9 := qp2_get (P := (fun k m l => (m = 0) ∨ (0 ≤ l ∧ l ≤ 259))) (a := v_depth.toInt) h7 rfl (by omega) (by omega) (by omega); omega
    have f28 : (((r1_14 v_depth.toNatClampNeg).toInt = 0) ∨ (0 ≤ (r1_13 v_depth.toNatClampNeg).toInt ∧ (r1_13 v_depth.toNatClampNeg).toInt ≤ 259)) := by have h9 := qp2_get (P := (fun k m l => (m = 0) ∨ (0 ≤ l ∧ l ≤ 259))) (a := v_depth.toInt) h8 rfl (by omega) (by omega) (by omega); omega
    refine ⟨i_in (by omega) (by omega), ?_⟩
    intro g64 eg64
    exact hq r31 r31_0 r31_1 r31_2 r31_3 r31_4 g49 r31_6 g64 r31_8 r1_9 r1_10 r1_11 r1_12 r1_13 r1_14 (by omega) (by omega) (by omega) (qp2_mono h3 (by omega) (by omega)) (rp_mono h4 (by omega) (by omega)) (qp2_mono h5 (by omega) (by omega)) (rp_mono h6 (by omega) (by omega)) (qp2_mono h7 (by omega) (by omega)) (qp2_mono h8 (by omega) (by omega)) (rp_mono h9 (by omega) (by omega)) (rp_mono h10 (by omega) (by omega)) (qp2_mono h11 (by omega) (by omega)) (qp2_mono h12 (by omega) (by omega)) (qp2_mono h13 (by omega) (by omega)) (qp2_mono h14 (by omega) (by omega)) (by first | exact zRT_a (by assumption) (by assumption) (by assumption) (by omega) (by omega) | exact zRT_b (by assumption) (by assumption) (by assumption) (by assumption) (by assumption) (by assumption) (by omega) (by omega) (by omega) (by omega) (by omega))
  · have f29 : x12.toInt = 1 := i_eq (a := x12.toInt) (b := 1) rfl rfl c14
    refine ⟨i_in (by omega) (by omega), ?_⟩
    intro x25 ex25
    have f30 : x25.toInt = (r1_12 v_depth.toNatClampNeg).toInt := congrArg Int32.toInt ex25
    have f31 : (((v_rowsMany v_depth.toNatClampNeg).toInt = 0) ∨ (0 ≤ (r1_12 v_depth.toNatClampNeg).toInt ∧ (r1_12 v_depth.toNatClampNeg).toInt ≤ 259)) := by have h9 := qp2_get (P := (fun k m l => (m = 0) ∨ (0 ≤ l ∧ l ≤ 259))) (a := v_depth.toInt) h3 rfl (by omega) (by omega) (by omega); omega
    have f32 : (((r1_14 v_depth.toNatClampNeg).toInt = 0) ∨ (0 ≤ (r1_12 v_depth.toNatClampNeg).toInt ∧ (r1_12 v_depth.toNatClampNeg).toInt ≤ 259)) := by have h9 := qp2_get (P := (fun k m l => (m = 0) ∨ (0 ≤ l ∧ l ≤ 259))) (a := v_depth.toInt) h7 rfl (by omega) (by omega) (by omega); omega
    have f33 : 0 ≤ x25.toInt + 1 ∧ x25.toInt ≤ 259 := by have h9 := rp_get (P := (fun k v => -1 ≤ v ∧ v ≤ 259)) (a := v_depth.toInt) h4 ex25 rfl (by omega) (by omega) (by omega); omega
    exact hq x25 r1_0 r1_1 r1_2 r1_3 r1_4 r1_5 r1_6 r1_7 r1_8 r1_9 r1_10 r1_11 r1_12 r1_13 r1_14 (by omega) (by omega) (by omega) (qp2_mono h3 (by omega) (by omega)) (rp_mono h4 (by omega) (by omega)) (qp2_mono h5 (by omega) (by omega)) (rp_mono h6 (by omega) (by omega)) (qp2_mono h7 (by omega) (by omega)) (qp2_mono h8 (by omega) (by omega)) (rp_mono h9 (by omega) (by omega)) (rp_mono h10 (by omega) (by omega)) (qp2_mono h11 (by omega) (by omega)) (qp2_mono h12 (by omega) (by omega)) (qp2_mono h13 (by omega) (by omega)) (qp2_mono h14 (by omega) (by omega)) (by first | exact zRT_a (by assumption) (by assumption) (by assumption) (by omega) (by omega) | exact zRT_b (by assumption) (by assumption) (by assumption) (by assumption) (by assumption) (by assumption) (by omega) (by omega) (by omega) (by omega) (by omega))
set_option maxHeartbeats 4000000 in
theorem ok_X12_countItem {p1 : Int32} {v_fault : Int32} {v_faultAt : Int32} {v_items : Int32} {Q : Int32 → Int32 → Int32 → Prop} (a0 : 0 ≤ v_items.toInt) (a1 : v_items.toInt ≤ 110) (a2 : 0 ≤ v_fault.toInt) (hq : ∀ (ov_fault : Int32) (ov_faultAt : Int32) (ov_items : Int32), v_fault.toInt ≤ ov_fault.toInt → ((1 ≤ ov_fault.toInt) ∨ (v_items.toInt ≠ 100)) → ((ov_fault.toInt = v_fault.toInt ∧ ov_faultAt.toInt = v_faultAt.toInt) ∨ (v_items.toInt = 100 ∧ v_fault.toInt ≤ ov_fault.toInt ∧ 1 ≤ ov_fault.toInt)) → ov_items.toInt = v_items.toInt + 1 → Q ov_fault ov_faultAt ov_items) : w_X12_countItem p1 v_fault v_faultAt v_items Q := by
  have q_t : (bz true).toInt = 1 := rfl
  have q_f : (bz false).toInt = 0 := rfl
  have q_2 : (2 : Int32).toInt = 2 := rfl
  unfold w_X12_countItem
  have j_15 : ∀ (v_fault_15 : Int32) (v_faultAt_15 : Int32), v_fault.toInt ≤ v_fault_15.toInt → ((1 ≤ v_fault_15.toInt) ∨ (v_items.toInt ≠ 100)) → ((v_fault_15.toInt = v_fault.toInt ∧ v_faultAt_15.toInt = v_faultAt.toInt) ∨ (v_items.toInt = 100 ∧ v_fault.toInt ≤ v_fault_15.toInt ∧ 1 ≤ v_fault_15.toInt)) → w_X12_countItem_15 Q v_fault_15 v_faultAt_15 v_items := by
    intro v_fault_15 v_faultAt_15 f1 f2 f3
    unfold w_X12_countItem_15
    intro x21 ex21
    have f4 : x21.toInt = v_items.toInt + 1 := i_add (a := v_items.toInt) (b := 1) ex21 rfl rfl (by omega) (by omega)
    exact hq v_fault_15 v_faultAt_15 x21 (by omega) (by omega) (by omega) (by omega)
  refine ⟨fun c6 => ?_, fun c6 => ?_⟩
  · have f5 : v_items.toInt ≠ 100 := i_ne (a := v_items.toInt) (b := 100) rfl rfl c6
    exact j_15 v_fault v_faultAt (by omega) (by omega) (by omega)
  · have f6 : v_items.toInt = 100 := i_eq (a := v_items.toInt) (b := 100) rfl rfl c6
    refine ok_X12_fail (by omega) (by omega) (by omega) (fun r12_0 r12_1 f7 f8 f9 => ?_)
    exact j_15 r12_0 r12_1 (by omega) (by omega) (by omega)
set_option maxHeartbeats 4000000 in
theorem ok_X12_captureOf {p1 : Int32} {v_newCaptures : Int32} {v_newNames : Nat → Int32} {Q : Int32 → Prop} (a0 : 0 ≤ v_newCaptures.toInt) (a1 : v_newCaptures.toInt ≤ 9) (hq : ∀ (r : Int32), 0 ≤ r.toInt + 1 → 0 ≤ r.toInt → r.toInt ≤ 9 → r.toInt ≤ v_newCaptures.toInt → r.toInt ≤ v_newCaptures.toInt + 1 → ((r.toInt ≤ 0) ∨ (1 ≤ r.toInt)) → Q r) : w_X12_captureOf p1 v_newCaptures v_newNames Q := by
  have q_t : (bz true).toInt = 1 := rfl
  have q_f : (bz false).toInt = 0 := rfl
  unfold w_X12_captureOf
  have j_5 : ∀ n_5 : Nat, ∀ (l2_5 : Int32), 0 ≤ l2_5.toInt → l2_5.toInt ≤ v_newCaptures.toInt → (l2_5.toInt + 2147483649).toNat < n_5 → w_X12_captureOf_5 p1 v_newNames Q n_5 l2_5 := by
    intro n_5
    induction n_5 with
    | zero =>
      intro l2_5 f1 f2 hm_5
      exfalso; omega
    | succ n_5 ih_5 =>
      intro l2_5 f1 f2 hm_5
      unfold w_X12_captureOf_5
      unfold w_X12_captureOf_5B
      have j_25 : ((l2_5.toInt ≤ 0) ∨ (1 ≤ l2_5.toInt)) → w_X12_captureOf_25 Q l2_5 := by
        intro f3
        unfold w_X12_captureOf_25
        exact hq l2_5 (by omega) (by omega) (by omega) (by omega) (by omega) (by omega)
      refine ⟨fun c6 => ?_, fun c6 => ?_⟩
      · have f4 : l2_5.toInt ≤ 0 := i_le (a := l2_5.toInt) (b := 0) rfl rfl c6
        exact j_25  (by omega)
      · have f5 : 0 < l2_5.toInt := i_nle (a := l2_5.toInt) (b := 0) rfl rfl c6
        refine ⟨i_in (by omega) (by omega), ?_⟩
        intro x14 ex14
        refine ⟨fun c16 => ?_, fun c16 => ?_⟩
        · have f6 : x14.toInt = p1.toInt := i_eq (a := x14.toInt) (b := p1.toInt) rfl rfl c16
          exact j_25  (by omega)
        · have f7 : x14.toInt ≠ p1.toInt := i_ne (a := x14.toInt) (b := p1.toInt) rfl rfl c16
          intro x19 ex19
          have f8 : x19.toInt = l2_5.toInt + (-1) := i_add (a := l2_5.toInt) (b := (-1)) ex19 rfl rfl (by omega) (by omega)
          exact ih_5 x19 (by omega) (by omega) (by have h8_0 := i_rng l2_5; have h8_1 := i_rng x19; omega)
  exact ⟨(v_newCaptures.toInt + 2147483649).toNat + 1, j_5   ((v_newCaptures.toInt + 2147483649).toNat + 1) v_newCaptures (by omega) (by omega) (by omega)⟩
set_option maxHeartbeats 4000000 in
theorem ok_X12_addPart {p1 : Int32} {p2 : Int32} {v_newParts : Int32} {v_newBegin : Nat → Int32} {v_newEnd : Nat → Int32} {Q : Int32 → (Nat → Int32) → (Nat → Int32) → Prop} (a0 : 0 ≤ v_newParts.toInt) (a1 : v_newParts.toInt ≤ 419) (hq : ∀ (ov_newParts : Int32) (ov_newBegin : Nat → Int32) (ov_newEnd : Nat → Int32), ov_newParts.toInt = v_newParts.toInt + 1 → (ov_newBegin = upd v_newBegin v_newParts.toNatClampNeg p1) → (ov_newEnd = upd v_newEnd v_newParts.toNatClampNeg p2) → Q ov_newParts ov_newBegin ov_newEnd) : w_X12_addPart p1 p2 v_newParts v_newBegin v_newEnd Q := by
  have q_t : (bz true).toInt = 1 := rfl
  have q_f : (bz false).toInt = 0 := rfl
  unfold w_X12_addPart
  refine ⟨i_in (by omega) (by omega), ?_⟩
  intro g9 eg9
  refine ⟨i_in (by omega) (by omega), ?_⟩
  intro g19 eg19
  intro x26 ex26
  have f1 : x26.toInt = v_newParts.toInt + 1 := i_add (a := v_newParts.toInt) (b := 1) ex26 rfl rfl (by omega) (by omega)
  exact hq x26 g9 g19 (by omega) (by assumption) (by assumption)
set_option maxHeartbeats 4000000 in
theorem ok_X12_hexes {p1 : Int32} {v_taped : Int32} {v_fault : Int32} {v_faultAt : Int32} {v_tape : Nat → Int32} {Q : Int32 → Int32 → Int32 → Prop} (a0 : 0 ≤ v_taped.toInt) (a1 : v_taped.toInt ≤ 200) (a2 : 0 ≤ p1.toInt) (a3 : p1.toInt ≤ 1000) (a4 : 0 ≤ v_fault.toInt) (a5 : ((1 ≤ v_fault.toInt) ∨ (p1.toInt ≤ v_taped.toInt))) (b0 : rp (fun k v => 32 ≤ v ∧ v ≤ 126) v_tape 0 v_taped.toInt) (hq : ∀ (r : Int32) (ov_fault : Int32) (ov_faultAt : Int32), 0 ≤ ov_fault.toInt + 1 → 0 ≤ ov_fault.toInt → v_fault.toInt ≤ ov_fault.toInt → ((1 ≤ ov_fault.toInt) ∨ (p1.toInt ≤ v_taped.toInt)) → ((1 ≤ ov_fault.toInt) ∨ (p1.toInt + 4 ≤ v_taped.toInt)) → (1 ≤ ov_fault.toInt ∨ (0 ≤ r.toInt ∧ r.toInt ≤ 65535)) → Q r ov_fault ov_faultAt) : w_X12_hexes p1 v_taped v_fault v_faultAt v_tape Q := by
  have q_t : (bz true).toInt = 1 := rfl
  have q_f : (bz false).toInt = 0 := rfl
  have q_0 : (0 : Int32).toInt = 0 := rfl
  have q_1 : (1 : Int32).toInt = 1 := rfl
  unfold w_X12_hexes
  have j_4 : ∀ n_4 : Nat, ∀ (l2_4 : Int32) (l3_4 : Int32) (v_fault_4 : Int32) (v_faultAt_4 : Int32), 0 ≤ l3_4.toInt → l3_4.toInt ≤ 4 → v_fault.toInt ≤ v_fault_4.toInt → ((1 ≤ v_fault_4.toInt) ∨ (l3_4.toInt + p1.toInt ≤ v_taped.toInt)) → (zHk v_fault_4.toInt l3_4.toInt l2_4.toInt) → ((-1) * l3_4.toInt + 4).toNat < n_4 → w_X12_hexes_4 p1 v_taped v_tape Q n_4 l2_4 l3_4 v_fault_4 v_faultAt_4 := by
    intro n_4
    induction n_4 with
    | zero =>
      intro l2_4 l3_4 v_fault_4 v_faultAt_4 f1 f2 f3 f4 u4_0 hm_4
      exfalso; omega
    | succ n_4 ih_4 =>
      intro l2_4 l3_4 v_fault_4 v_faultAt_4 f1 f2 f3 f4 u4_0 hm_4
      unfold w_X12_hexes_4
      unfold w_X12_hexes_4B
      refine ⟨fun c6 => ?_, fun c6 => ?_⟩
      · have f5 : 4 ≤ l3_4.toInt := i_le (a := 4) (b := l3_4.toInt) rfl rfl c6
        exact hq l2_4 v_fault_4 v_faultAt_4 (by omega) (by omega) (by omega) (by omega) (by omega) (by exact zHk_e u4_0 (by assumption))
      · have f6 : l3_4.toInt < 4 := i_nle (a := 4) (b := l3_4.toInt) rfl rfl c6
        intro x12 ex12
        have f7 : x12.toInt = p1.toInt + l3_4.toInt := i_add (a := p1.toInt) (b := l3_4.toInt) ex12 rfl rfl (by omega) (by omega)
        refine ok_X12_signAt (by omega) (by omega) (by omega) (rp_mono b0 (by omega) (by omega)) (fun r13 f8 f9 f10 f11 f12 f13 => ?_)
        refine ok_X12_isHex  (fun r20 f14 f15 f16 f17 f18 => ?_)
        have j_34 : ∀ (v_fault_34 : Int32) (v_faultAt_34 : Int32), v_fault.toInt ≤ v_fault_34.toInt → v_fault_4.toInt ≤ v_fault_34.toInt → v_fault_34.toInt ≤ v_fault_4.toInt + 1 → ((1 ≤ v_fault_34.toInt) ∨ (l3_4.toInt + p1.toInt + 1 ≤ v_taped.toInt)) → ((v_fault_34.toInt = v_fault_4.toInt) ∨ (r20.toInt = 0 ∧ v_fault_4.toInt ≤ v_fault_34.toInt ∧ 1 ≤ v_fault_34.toInt)) → (zHc v_fault_34.toInt r13.toInt) → (zHk v_fault_34.toInt l3_4.toInt l2_4.toInt) → w_X12_hexes_34 Q (w_X12_hexes_4 p1 v_taped v_tape Q n_4) l2_4 l3_4 r13 v_fault_34 v_faultAt_34 := by
          intro v_fault_34 v_faultAt_34 f19 f20 f21 f22 f23 u34_0 u34_1
          unfold w_X12_hexes_34
          intro x37 ex37
          refine ok_X12_isDigit  (fun r40 f24 f25 f26 f27 f28 f29 => ?_)
          have j_59 : ∀ (s0_59 : Int32), ((r40.toInt = 0 ∧ s0_59.toInt + 87 = r13.toInt) ∨ (s0_59.toInt + 48 = r13.toInt)) → s0_59.toInt ≤ 59 → (zHd v_fault_34.toInt s0_59.toInt) → w_X12_hexes_59 Q (w_X12_hexes_4 p1 v_taped v_tape Q n_4) s0_59 x37 l3_4 v_fault_34 v_faultAt_34 := by
            intro s0_59 f30 f31 u59_0
            unfold w_X12_hexes_59
            intro x59 ex59
            intro x61 ex61
            have f32 : x61.toInt = l3_4.toInt + 1 := i_add (a := l3_4.toInt) (b := 1) ex61 rfl rfl (by omega) (by omega)
            exact ih_4 x59 x61 v_fault_34 v_faultAt_34 (by omega) (by omega) (by omega) (by omega) (by first | exact zHk_0 | exact zHk_s u34_1 u59_0 (by assumption) (by assumption) (by assumption) (by assumption)) (by have h8_0 := i_rng l3_4; have h8_1 := i_rng x61; omega)
          refine ⟨fun c43 => ?_, fun c43 => ?_⟩
          · have f33 : r40.toInt = 0 := i_eq (a := r40.toInt) (b := 0) rfl rfl c43
            intro x58 ex58
            have f34 : x58.toInt = r13.toInt - 87 := i_sub (a := r13.toInt) (b := 87) ex58 rfl rfl (by omega) (by omega)
            exact j_59 x58 (by omega) (by omega) (by first | exact zHd_a u34_0 (by assumption) (by assumption) (by assumption) (by assumption) | exact zHd_b u34_0 (by assumption) (by assumption) (by assumption))
          · have f35 : r40.toInt ≠ 0 := i_ne (a := r40.toInt) (b := 0) rfl rfl c43
            intro x50 ex50
            have f36 : x50.toInt = r13.toInt - 48 := i_sub (a := r13.toInt) (b := 48) ex50 rfl rfl (by omega) (by omega)
            exact j_59 x50 (by omega) (by omega) (by first | exact zHd_a u34_0 (by assumption) (by assumption) (by assumption) (by assumption) | exact zHd_b u34_0 (by assumption) (by assumption) (by assumption))
        refine ⟨fun c23 => ?_, fun c23 => ?_⟩
        · have f37 : r20.toInt ≠ 0 := i_ne (a := r20.toInt) (b := 0) rfl rfl c23
          exact j_34 v_fault_4 v_faultAt_4 (by omega) (by omega) (by omega) (by omega) (by omega) (by first | exact Or.inl (by assumption) | exact zHc_a (by assumption) (by assumption) (by assumption) (by assumption)) (by first | assumption | exact zHk_m u4_0 (by assumption) (by assumption))
        · have f38 : r20.toInt = 0 := i_eq (a := r20.toInt) (b := 0) rfl rfl c23
          intro x30 ex30
          have f39 : x30.toInt = p1.toInt + l3_4.toInt := i_add (a := p1.toInt) (b := l3_4.toInt) ex30 rfl rfl (by omega) (by omega)
          refine ok_X12_fail (by omega) (by omega) (by omega) (fun r31_0 r31_1 f40 f41 f42 => ?_)
          exact j_34 r31_0 r31_1 (by omega) (by omega) (by omega) (by omega) (by omega) (by first | exact Or.inl (by assumption) | exact zHc_a (by assumption) (by assumption) (by assumption) (by assumption)) (by first | assumption | exact zHk_m u4_0 (by assumption) (by assumption))
  exact ⟨(4 : Int).toNat + 1, j_4   ((4 : Int).toNat + 1) 0 0 v_fault v_faultAt (by omega) (by omega) (by omega) (by omega) (by first | exact zHk_0 | exact zHk_s u34_1 u59_0 (by assumption) (by assumption) (by assumption) (by assumption)) (by omega)⟩
set_option maxHeartbeats 4000000 in
theorem ok_X12_numberFrom {p1 : Int32} {p2 : Int32} {v_taped : Int32} {v_fault : Int32} {v_faultAt : Int32} {v_loopLeast : Int32} {v_loopMost : Int32} {v_tape : Nat → Int32} {Q : Int32 → Int32 → Int32 → Int32 → Int32 → Prop} (a0 : 0 ≤ v_taped.toInt) (a1 : v_taped.toInt ≤ 200) (a2 : 0 ≤ p2.toInt) (a3 : p2.toInt ≤ 1) (a4 : 0 ≤ p1.toInt) (a5 : p1.toInt ≤ 1000) (a6 : 0 ≤ v_fault.toInt) (b0 : rp (fun k v => 32 ≤ v ∧ v ≤ 126) v_tape 0 v_taped.toInt) (hq : ∀ (r : Int32) (ov_fault : Int32) (ov_faultAt : Int32) (ov_loopLeast : Int32) (ov_loopMost : Int32), v_fault.toInt ≤ ov_fault.toInt → p1.toInt ≤ r.toInt → ((r.toInt = p1.toInt ∧ ov_loopLeast.toInt = v_loopLeast.toInt ∧ ov_loopMost.toInt = v_loopMost.toInt ∧ 1 ≤ ov_fault.toInt) ∨ (0 ≤ ov_loopMost.toInt ∧ ov_loopMost.toInt ≤ 99 ∧ r.toInt ≤ 200)) → r.toInt ≤ p1.toInt + 2 → ((1 ≤ ov_fault.toInt) ∨ (0 ≤ ov_loopMost.toInt ∧ ov_loopMost.toInt ≤ 20)) → ((1 ≤ ov_fault.toInt) ∨ (0 ≤ ov_loopLeast.toInt ∧ ov_loopLeast.toInt ≤ 20) ∨ (ov_loopLeast.toInt = v_loopLeast.toInt)) → ((1 ≤ ov_fault.toInt) ∨ (ov_loopLeast.toInt ≤ ov_loopMost.toInt)) → Q r ov_fault ov_faultAt ov_loopLeast ov_loopMost) : w_X12_numberFrom p1 p2 v_taped v_fault v_faultAt v_loopLeast v_loopMost v_tape Q := by
  have q_t : (bz true).toInt = 1 := rfl
  have q_f : (bz false).toInt = 0 := rfl
  have q_1 : (1 : Int32).toInt = 1 := rfl
  have q_3 : (3 : Int32).toInt = 3 := rfl
  unfold w_X12_numberFrom
  refine ok_X12_signAt (by omega) (by omega) (by omega) (rp_mono b0 (by omega) (by omega)) (fun r2 f1 f2 f3 f4 f5 f6 => ?_)
  refine ok_X12_isDigit  (fun r5 f7 f8 f9 f10 f11 f12 => ?_)
  refine ⟨fun c8 => ?_, fun c8 => ?_⟩
  · have f13 : r5.toInt ≠ 0 := i_ne (a := r5.toInt) (b := 0) rfl rfl c8
    refine ok_X12_signAt (by omega) (by omega) (by omega) (rp_mono b0 (by omega) (by omega)) (fun r21 f14 f15 f16 f17 f18 f19 => ?_)
    intro x26 ex26
    have f20 : x26.toInt = r21.toInt - 48 := i_sub (a := r21.toInt) (b := 48) ex26 rfl rfl (by omega) (by omega)
    intro x30 ex30
    have f21 : x30.toInt = p1.toInt + 1 := i_add (a := p1.toInt) (b := 1) ex30 rfl rfl (by omega) (by omega)
    refine ok_X12_signAt (by omega) (by omega) (by omega) (rp_mono b0 (by omega) (by omega)) (fun r36 f22 f23 f24 f25 f26 f27 => ?_)
    refine ok_X12_isDigit  (fun r39 f28 f29 f30 f31 f32 f33 => ?_)
    have j_63 : ∀ (l3_63 : Int32) (l4_63 : Int32), 0 ≤ l3_63.toInt → ((l3_63.toInt = x26.toInt ∧ l4_63.toInt = x30.toInt ∧ r39.toInt = 0) ∨ (10 * x26.toInt ≤ l3_63.toInt + 49 ∧ l3_63.toInt ≤ 10 * x26.toInt + 78 ∧ l4_63.toInt = x30.toInt + 1)) → l3_63.toInt ≤ 99 → l4_63.toInt ≤ 200 → w_X12_numberFrom_63 p1 p2 Q l3_63 l4_63 v_fault v_faultAt v_loopLeast v_loopMost := by
      intro l3_63 l4_63 f34 f35 f36 f37
      unfold w_X12_numberFrom_63
      have j_87 : ∀ (v_fault_87 : Int32) (v_faultAt_87 : Int32), v_fault.toInt ≤ v_fault_87.toInt → ((1 ≤ v_fault_87.toInt) ∨ (l3_63.toInt ≤ 20)) → ((p2.toInt = 0) ∨ (1 ≤ v_fault_87.toInt) ∨ (v_loopLeast.toInt ≤ l3_63.toInt)) → ((v_fault_87.toInt = v_fault.toInt ∧ v_faultAt_87.toInt = v_faultAt.toInt ∧ l3_63.toInt ≤ 20 ∧ p2.toInt = 0) ∨ (v_fault_87.toInt = v_fault.toInt ∧ v_faultAt_87.toInt = v_faultAt.toInt ∧ l3_63.toInt ≤ 20 ∧ v_loopLeast.toInt ≤ l3_63.toInt) ∨ (v_fault.toInt ≤ v_fault_87.toInt ∧ 1 ≤ v_fault_87.toInt)) → w_X12_numberFrom_87 p2 Q l3_63 l4_63 v_fault_87 v_faultAt_87 v_loopLeast v_loopMost := by
        intro v_fault_87 v_faultAt_87 f38 f39 f40 f41
        unfold w_X12_numberFrom_87
        have j_105 : ∀ (s0_105 : Int32), ((s0_105.toInt = l3_63.toInt ∧ p2.toInt = 0) ∨ (s0_105.toInt = v_loopLeast.toInt)) → (1 ≤ v_fault_87.toInt ∨ s0_105.toInt ≤ l3_63.toInt) → w_X12_numberFrom_105 Q s0_105 l4_63 v_fault_87 v_faultAt_87 v_loopLeast l3_63 := by
          intro s0_105 f42 u105_0
          unfold w_X12_numberFrom_105
          have f43 : ((1 ≤ v_fault_87.toInt) ∨ (s0_105.toInt ≤ l3_63.toInt)) := u105_0
          exact hq l4_63 v_fault_87 v_faultAt_87 s0_105 l3_63 (by omega) (by omega) (by omega) (by omega) (by omega) (by omega) (by omega)
        refine ⟨fun c94 => ?_, fun c94 => ?_⟩
        · have f44 : p2.toInt = 0 := i_eq (a := p2.toInt) (b := 0) rfl rfl c94
          exact j_105 l3_63 (by omega) (by omega)
        · have f45 : p2.toInt ≠ 0 := i_ne (a := p2.toInt) (b := 0) rfl rfl c94
          exact j_105 v_loopLeast (by omega) (by omega)
      have j_81 : ((21 ≤ l3_63.toInt) ∨ (l3_63.toInt ≤ 20 ∧ l3_63.toInt + 1 ≤ v_loopLeast.toInt)) → w_X12_numberFrom_81 p1 p2 Q l3_63 l4_63 v_fault v_faultAt v_loopLeast v_loopMost := by
        intro f46
        unfold w_X12_numberFrom_81
        refine ok_X12_fail (by omega) (by omega) (by omega) (fun r84_0 r84_1 f47 f48 f49 => ?_)
        exact j_87 r84_0 r84_1 (by omega) (by omega) (by omega) (by omega)
      refine ⟨fun c66 => ?_, fun c66 => ?_⟩
      · have f50 : 20 < l3_63.toInt := i_lt (a := 20) (b := l3_63.toInt) rfl rfl c66
        exact j_81  (by omega)
      · have f51 : l3_63.toInt ≤ 20 := i_nlt (a := 20) (b := l3_63.toInt) rfl rfl c66
        refine ⟨fun c70 => ?_, fun c70 => ?_⟩
        · have f52 : p2.toInt = 0 := i_eq (a := p2.toInt) (b := 0) rfl rfl c70
          exact j_87 v_fault v_faultAt (by omega) (by omega) (by omega) (by omega)
        · have f53 : p2.toInt ≠ 0 := i_ne (a := p2.toInt) (b := 0) rfl rfl c70
          refine ⟨fun c78 => ?_, fun c78 => ?_⟩
          · have f54 : v_loopLeast.toInt ≤ l3_63.toInt := i_le (a := v_loopLeast.toInt) (b := l3_63.toInt) rfl rfl c78
            exact j_87 v_fault v_faultAt (by omega) (by omega) (by omega) (by omega)
          · have f55 : l3_63.toInt < v_loopLeast.toInt := i_nle (a := v_loopLeast.toInt) (b := l3_63.toInt) rfl rfl c78
            exact j_81  (by omega)
    refine ⟨fun c42 => ?_, fun c42 => ?_⟩
    · have f56 : r39.toInt = 0 := i_eq (a := r39.toInt) (b := 0) rfl rfl c42
      exact j_63 x26 x30 (by omega) (by omega) (by omega) (by omega)
    · have f57 : r39.toInt ≠ 0 := i_ne (a := r39.toInt) (b := 0) rfl rfl c42
      intro x48 ex48
      have f58 : x48.toInt = 10 * x26.toInt := i_mul (a := 10) (b := x26.toInt) ex48 rfl rfl (by omega) (by omega)
      refine ok_X12_signAt (by omega) (by omega) (by omega) (rp_mono b0 (by omega) (by omega)) (fun r52 f59 f60 f61 f62 f63 f64 => ?_)
      intro x55 ex55
      have f65 : x55.toInt = x48.toInt + r52.toInt := i_add (a := x48.toInt) (b := r52.toInt) ex55 rfl rfl (by omega) (by omega)
      intro x58 ex58
      have f66 : x58.toInt = x55.toInt - 48 := i_sub (a := x55.toInt) (b := 48) ex58 rfl rfl (by omega) (by omega)
      intro x60 ex60
      have f67 : x60.toInt = x30.toInt + 1 := i_add (a := x30.toInt) (b := 1) ex60 rfl rfl (by omega) (by omega)
      exact j_63 x58 x60 (by omega) (by omega) (by omega) (by omega)
  · have f68 : r5.toInt = 0 := i_eq (a := r5.toInt) (b := 0) rfl rfl c8
    refine ok_X12_fail (by omega) (by omega) (by omega) (fun r14_0 r14_1 f69 f70 f71 => ?_)
    exact hq p1 r14_0 r14_1 v_loopLeast v_loopMost (by omega) (by omega) (by omega) (by omega) (by omega) (by omega) (by omega)
set_option maxHeartbeats 4000000 in
theorem ok_X12_member {p1 : Int32} {v_taped : Int32} {v_fault : Int32} {v_faultAt : Int32} {v_tape : Nat → Int32} {Q : Int32 → Int32 → Int32 → Int32 → Prop} (a0 : 0 ≤ v_taped.toInt) (a1 : v_taped.toInt ≤ 200) (a2 : 0 ≤ p1.toInt) (a3 : p1.toInt ≤ 1000) (a4 : 0 ≤ v_fault.toInt) (b0 : rp (fun k v => 32 ≤ v ∧ v ≤ 126) v_tape 0 v_taped.toInt) (hq : ∀ (ov_fault : Int32) (ov_faultAt : Int32) (ov_memberValue : Int32) (ov_memberEnd : Int32), v_fault.toInt ≤ ov_fault.toInt → ((1 ≤ ov_fault.toInt) ∨ (ov_memberEnd.toInt ≤ v_taped.toInt)) → ((p1.toInt + 1 ≤ v_taped.toInt) ∨ (1 ≤ ov_fault.toInt)) → ov_memberEnd.toInt ≤ p1.toInt + 6 → p1.toInt + 1 ≤ ov_memberEnd.toInt → ov_memberEnd.toInt ≤ 1001 → (zMb ov_fault.toInt p1.toInt ov_memberEnd.toInt ov_memberValue.toInt) → Q ov_fault ov_faultAt ov_memberValue ov_memberEnd) : w_X12_member p1 v_taped v_fault v_faultAt v_tape Q := by
  have q_t : (bz true).toInt = 1 := rfl
  have q_f : (bz false).toInt = 0 := rfl
  have q_1 : (1 : Int32).toInt = 1 := rfl
  unfold w_X12_member
  refine ok_X12_signAt (by omega) (by omega) (by omega) (rp_mono b0 (by omega) (by omega)) (fun r2 f1 f2 f3 f4 f5 f6 => ?_)
  intro x14 ex14
  have f7 : x14.toInt = p1.toInt + 1 := i_add (a := p1.toInt) (b := 1) ex14 rfl rfl (by omega) (by omega)
  have j_137 : ∀ (v_fault_137 : Int32) (v_faultAt_137 : Int32) (v_memberValue_137 : Int32) (v_memberEnd_137 : Int32), v_fault.toInt ≤ v_fault_137.toInt → ((1 ≤ v_fault_137.toInt) ∨ (v_memberEnd_137.toInt ≤ v_taped.toInt)) → ((p1.toInt + 1 ≤ v_taped.toInt) ∨ (1 ≤ v_fault_137.toInt)) → v_memberEnd_137.toInt ≤ p1.toInt + 6 → p1.toInt + 1 ≤ v_memberEnd_137.toInt → v_memberEnd_137.toInt ≤ 1001 → (zMb v_fault_137.toInt p1.toInt v_memberEnd_137.toInt v_memberValue_137.toInt) → w_X12_member_137 Q v_fault_137 v_faultAt_137 v_memberValue_137 v_memberEnd_137 := by
    intro v_fault_137 v_faultAt_137 v_memberValue_137 v_memberEnd_137 f8 f9 f10 f11 f12 f13 u137_0
    unfold w_X12_member_137
    exact hq v_fault_137 v_faultAt_137 v_memberValue_137 v_memberEnd_137 (by omega) (by omega) (by omega) (by omega) (by omega) (by omega) (by first | assumption | omega)
  have j_47 : w_X12_member_47 p1 Q v_fault v_faultAt r2 x14 := by
    unfold w_X12_member_47
    refine ok_X12_fail (by omega) (by omega) (by omega) (fun r50_0 r50_1 f14 f15 f16 => ?_)
    exact j_137 r50_0 r50_1 r2 x14 (by omega) (by omega) (by omega) (by omega) (by omega) (by omega) (by first | exact Or.inl (by assumption) | exact zMb_h (by assumption) (by assumption) | exact zMb_c (by omega) (by omega) (by omega))
  refine ⟨fun c20 => ?_, fun c20 => ?_⟩
  · have f17 : r2.toInt = (-1) := i_eq (a := r2.toInt) (b := (-1)) rfl rfl c20
    exact j_47  
  · have f18 : r2.toInt ≠ (-1) := i_ne (a := r2.toInt) (b := (-1)) rfl rfl c20
    refine ⟨fun c26 => ?_, fun c26 => ?_⟩
    · have f19 : r2.toInt = 91 := i_eq (a := r2.toInt) (b := 91) rfl rfl c26
      exact j_47  
    · have f20 : r2.toInt ≠ 91 := i_ne (a := r2.toInt) (b := 91) rfl rfl c26
      refine ⟨fun c32 => ?_, fun c32 => ?_⟩
      · have f21 : r2.toInt = 93 := i_eq (a := r2.toInt) (b := 93) rfl rfl c32
        exact j_47  
      · have f22 : r2.toInt ≠ 93 := i_ne (a := r2.toInt) (b := 93) rfl rfl c32
        refine ⟨fun c38 => ?_, fun c38 => ?_⟩
        · have f23 : r2.toInt = 94 := i_eq (a := r2.toInt) (b := 94) rfl rfl c38
          exact j_47  
        · have f24 : r2.toInt ≠ 94 := i_ne (a := r2.toInt) (b := 94) rfl rfl c38
          refine ⟨fun c44 => ?_, fun c44 => ?_⟩
          · have f25 : r2.toInt ≠ 45 := i_ne (a := r2.toInt) (b := 45) rfl rfl c44
            refine ⟨fun c59 => ?_, fun c59 => ?_⟩
            · have f26 : r2.toInt ≠ 92 := i_ne (a := r2.toInt) (b := 92) rfl rfl c59
              exact j_137 v_fault v_faultAt r2 x14 (by omega) (by omega) (by omega) (by omega) (by omega) (by omega) (by first | exact Or.inl (by assumption) | exact zMb_h (by assumption) (by assumption) | exact zMb_c (by omega) (by omega) (by omega))
            · have f27 : r2.toInt = 92 := i_eq (a := r2.toInt) (b := 92) rfl rfl c59
              intro x65 ex65
              have f28 : x65.toInt = p1.toInt + 1 := i_add (a := p1.toInt) (b := 1) ex65 rfl rfl (by omega) (by omega)
              refine ok_X12_signAt (by omega) (by omega) (by omega) (rp_mono b0 (by omega) (by omega)) (fun r66 f29 f30 f31 f32 f33 f34 => ?_)
              intro x73 ex73
              have f35 : x73.toInt = p1.toInt + 2 := i_add (a := p1.toInt) (b := 2) ex73 rfl rfl (by omega) (by omega)
              refine ⟨fun c85 => ?_, fun c85 => ?_⟩
              · have f36 : r66.toInt ≠ 120 := i_ne (a := r66.toInt) (b := 120) rfl rfl c85
                have j_129 : w_X12_member_129 p1 Q v_fault v_faultAt r66 x73 := by
                  unfold w_X12_member_129
                  intro x133 ex133
                  have f37 : x133.toInt = p1.toInt + 1 := i_add (a := p1.toInt) (b := 1) ex133 rfl rfl (by omega) (by omega)
                  refine ok_X12_fail (by omega) (by omega) (by omega) (fun r134_0 r134_1 f38 f39 f40 => ?_)
                  exact j_137 r134_0 r134_1 r66 x73 (by omega) (by omega) (by omega) (by omega) (by omega) (by omega) (by first | exact Or.inl (by assumption) | exact zMb_h (by assumption) (by assumption) | exact zMb_c (by omega) (by omega) (by omega))
                refine ⟨fun c112 => ?_, fun c112 => ?_⟩
                · have f41 : r66.toInt = (-1) := i_eq (a := r66.toInt) (b := (-1)) rfl rfl c112
                  exact j_129  
                · have f42 : r66.toInt ≠ (-1) := i_ne (a := r66.toInt) (b := (-1)) rfl rfl c112
                  refine ok_X12_isLetter  (fun r116 f43 f44 f45 f46 => ?_)
                  refine ⟨fun c119 => ?_, fun c119 => ?_⟩
                  · have f47 : r116.toInt ≠ 0 := i_ne (a := r116.toInt) (b := 0) rfl rfl c119
                    exact j_129  
                  · have f48 : r116.toInt = 0 := i_eq (a := r116.toInt) (b := 0) rfl rfl c119
                    refine ok_X12_isDigit  (fun r123 f49 f50 f51 f52 f53 f54 => ?_)
                    refine ⟨fun c126 => ?_, fun c126 => ?_⟩
                    · have f55 : r123.toInt = 0 := i_eq (a := r123.toInt) (b := 0) rfl rfl c126
                      exact j_137 v_fault v_faultAt r66 x73 (by omega) (by omega) (by omega) (by omega) (by omega) (by omega) (by first | exact Or.inl (by assumption) | exact zMb_h (by assumption) (by assumption) | exact zMb_c (by omega) (by omega) (by omega))
                    · have f56 : r123.toInt ≠ 0 := i_ne (a := r123.toInt) (b := 0) rfl rfl c126
                      exact j_129  
              · have f57 : r66.toInt = 120 := i_eq (a := r66.toInt) (b := 120) rfl rfl c85
                intro x92 ex92
                have f58 : x92.toInt = p1.toInt + 2 := i_add (a := p1.toInt) (b := 2) ex92 rfl rfl (by omega) (by omega)
                refine ok_X12_hexes (by omega) (by omega) (by omega) (by omega) (by omega) (by omega) (rp_mono b0 (by omega) (by omega)) (fun r93 r93_0 r93_1 f59 f60 f61 f62 f63 u93_0 => ?_)
                intro x103 ex103
                have f64 : x103.toInt = p1.toInt + 6 := i_add (a := p1.toInt) (b := 6) ex103 rfl rfl (by omega) (by omega)
                exact j_137 r93_0 r93_1 r93 x103 (by omega) (by omega) (by omega) (by omega) (by omega) (by omega) (by first | exact Or.inl (by assumption) | exact zMb_h (by assumption) (by assumption) | exact zMb_c (by omega) (by omega) (by omega))
          · have f65 : r2.toInt = 45 := i_eq (a := r2.toInt) (b := 45) rfl rfl c44
            exact j_47  
set_option maxHeartbeats 4000000 in
theorem ok_X12_joinParts {p1 : Int32} {v_newParts : Int32} {v_newBegin : Nat → Int32} {v_newEnd : Nat → Int32} {v_fault : Int32} {gh9 : Int} {Q : Int32 → (Nat → Int32) → (Nat → Int32) → Prop} (a0 : 0 ≤ p1.toInt) (a1 : p1.toInt ≤ v_newParts.toInt) (a2 : 0 ≤ v_newParts.toInt) (a3 : v_newParts.toInt ≤ 420) (u0 : zPs v_fault.toInt v_newBegin v_newEnd v_newParts.toInt gh9) (hq : ∀ (ov_newParts : Int32) (ov_newBegin : Nat → Int32) (ov_newEnd : Nat → Int32), 0 ≤ ov_newParts.toInt + 1 → 0 ≤ ov_newParts.toInt → ov_newParts.toInt ≤ 420 → p1.toInt ≤ ov_newParts.toInt → ov_newParts.toInt ≤ v_newParts.toInt → ov_newParts.toInt ≤ v_newParts.toInt + 1 → (zPs v_fault.toInt ov_newBegin ov_newEnd ov_newParts.toInt gh9) → (zPb v_newBegin v_newEnd ov_newBegin ov_newEnd p1.toInt) → Q ov_newParts ov_newBegin ov_newEnd) : w_X12_joinParts p1 v_newParts v_newBegin v_newEnd Q := by
  have q_t : (bz true).toInt = 1 := rfl
  have q_f : (bz false).toInt = 0 := rfl
  unfold w_X12_joinParts
  intro x2 ex2
  have f1 : x2.toInt = p1.toInt + 1 := i_add (a := p1.toInt) (b := 1) ex2 rfl rfl (by omega) (by omega)
  have j_4 : ∀ n_4 : Nat, ∀ (l2_4 : Int32) (v_newBegin_4 : Nat → Int32) (v_newEnd_4 : Nat → Int32), x2.toInt ≤ l2_4.toInt → l2_4.toInt ≤ v_newParts.toInt + 1 → (zPs v_fault.toInt v_newBegin_4 v_newEnd_4 v_newParts.toInt gh9) → (zPb v_newBegin v_newEnd v_newBegin_4 v_newEnd_4 p1.toInt) → ((-1) * l2_4.toInt + 2147483648).toNat < n_4 → w_X12_joinParts_4 p1 Q v_newParts n_4 l2_4 v_newBegin_4 v_newEnd_4 := by
    intro n_4
    induction n_4 with
    | zero =>
      intro l2_4 v_newBegin_4 v_newEnd_4 f2 f3 u4_0 u4_1 hm_4
      exfalso; omega
    | succ n_4 ih_4 =>
      intro l2_4 v_newBegin_4 v_newEnd_4 f2 f3 u4_0 u4_1 hm_4
      unfold w_X12_joinParts_4
      unfold w_X12_joinParts_4B
      refine ⟨fun c9 => ?_, fun c9 => ?_⟩
      · have f4 : v_newParts.toInt ≤ l2_4.toInt := i_le (a := v_newParts.toInt) (b := l2_4.toInt) rfl rfl c9
        have j_114 : ∀ n_114 : Nat, ∀ (l2_114 : Int32) (l3_114 : Int32) (v_newBegin_114 : Nat → Int32) (v_newEnd_114 : Nat → Int32), p1.toInt ≤ l2_114.toInt → l2_114.toInt ≤ l3_114.toInt → l3_114.toInt ≤ v_newParts.toInt → (zPj v_fault.toInt v_newBegin_114 v_newEnd_114 l2_114.toInt l3_114.toInt v_newParts.toInt gh9) → (zPb v_newBegin v_newEnd v_newBegin_114 v_newEnd_114 p1.toInt) → ((-1) * l3_114.toInt + 2147483648).toNat < n_114 → w_X12_joinParts_114 p1 Q v_newParts n_114 l2_114 l3_114 v_newBegin_114 v_newEnd_114 := by
          intro n_114
          induction n_114 with
          | zero =>
            intro l2_114 l3_114 v_newBegin_114 v_newEnd_114 f5 f6 f7 u114_0 u114_1 hm_114
            exfalso; omega
          | succ n_114 ih_114 =>
            intro l2_114 l3_114 v_newBegin_114 v_newEnd_114 f5 f6 f7 u114_0 u114_1 hm_114
            unfold w_X12_joinParts_114
            unfold w_X12_joinParts_114B
            refine ⟨fun c119 => ?_, fun c119 => ?_⟩
            · have f8 : v_newParts.toInt ≤ l3_114.toInt := i_le (a := v_newParts.toInt) (b := l3_114.toInt) rfl rfl c119
              exact hq l2_114 v_newBegin_114 v_newEnd_114 (by omega) (by omega) (by omega) (by omega) (by omega) (by omega) (by exact zPj_out u114_0 (by omega) (by omega)) (by assumption)
            · have f9 : l3_114.toInt < v_newParts.toInt := i_nle (a := v_newParts.toInt) (b := l3_114.toInt) rfl rfl c119
              have j_218 : ∀ (l2_218 : Int32) (v_newBegin_218 : Nat → Int32) (v_newEnd_218 : Nat → Int32), l2_114.toInt ≤ l2_218.toInt → l2_218.toInt ≤ l2_114.toInt + 1 → ((l2_218.toInt = l2_114.toInt ∧ p1.toInt + 1 ≤ l2_114.toInt) ∨ (l2_218.toInt = l2_114.toInt + 1)) → (zPj v_fault.toInt v_newBegin_218 v_newEnd_218 l2_218.toInt (l3_114.toInt + 1) v_newParts.toInt gh9) → (zPb v_newBegin v_newEnd v_newBegin_218 v_newEnd_218 p1.toInt) → w_X12_joinParts_218 Q (w_X12_joinParts_114 p1 Q v_newParts n_114) l2_218 l3_114 v_newBegin_218 v_newEnd_218 := by
                intro l2_218 v_newBegin_218 v_newEnd_218 f10 f11 f12 u218_0 u218_1
                unfold w_X12_joinParts_218
                intro x218 ex218
                have f13 : x218.toInt = l3_114.toInt + 1 := i_add (a := l3_114.toInt) (b := 1) ex218 rfl rfl (by omega) (by omega)
                exact ih_114 l2_218 x218 v_newBegin_218 v_newEnd_218 (by omega) (by omega) (by omega) (by first | exact zPj_in (by assumption) | exact zPj_k u218_0 (by omega)) (by assumption) (by have h8_0 := i_rng l3_114; have h8_1 := i_rng x218; omega)
              have j_191 : ((l2_114.toInt ≤ p1.toInt) ∨ (p1.toInt + 1 ≤ l2_114.toInt)) → w_X12_joinParts_191 Q (w_X12_joinParts_114 p1 Q v_newParts n_114) l2_114 l3_114 v_newBegin_114 v_newEnd_114 := by
                intro f14
                unfold w_X12_joinParts_191
                refine ⟨i_in (by omega) (by omega), ?_⟩
                intro x201 ex201
                refine ⟨i_in (by omega) (by omega), ?_⟩
                intro g202 eg202
                refine ⟨i_in (by omega) (by omega), ?_⟩
                intro x213 ex213
                refine ⟨i_in (by omega) (by omega), ?_⟩
                intro g214 eg214
                intro x215 ex215
                have f15 : x215.toInt = l2_114.toInt + 1 := i_add (a := l2_114.toInt) (b := 1) ex215 rfl rfl (by omega) (by omega)
                exact j_218 x215 g202 g214 (by omega) (by omega) (by omega) (by first | exact zPj_m u114_0 u187_0 (by assumption) (by omega) (by omega) (by omega) (by omega) (by omega) | exact zPj_c u114_0 (by assumption) (by assumption) (by assumption) (by assumption) (by omega) (by omega) (by omega) (by omega) (by omega)) (by first | exact zPb_e u114_1 (by assumption) (by omega) | exact zPb_w u114_1 (by assumption) (by assumption) (by omega) (by omega))
              refine ⟨fun c124 => ?_, fun c124 => ?_⟩
              · have f16 : l2_114.toInt ≤ p1.toInt := i_le (a := l2_114.toInt) (b := p1.toInt) rfl rfl c124
                exact j_191  (by omega)
              · have f17 : p1.toInt < l2_114.toInt := i_nle (a := l2_114.toInt) (b := p1.toInt) rfl rfl c124
                refine ⟨i_in (by omega) (by omega), ?_⟩
                intro x132 ex132
                intro x139 ex139
                have f18 : x139.toInt = l2_114.toInt - 1 := i_sub (a := l2_114.toInt) (b := 1) ex139 rfl rfl (by omega) (by omega)
                refine ⟨i_in (by omega) (by omega), ?_⟩
                intro x140 ex140
                intro x142 ex142
                refine ⟨fun c143 => ?_, fun c143 => ?_⟩
                · have f19 : x142.toInt < x132.toInt := i_lt (a := x142.toInt) (b := x132.toInt) rfl rfl c143
                  exact j_191  (by omega)
                · have f20 : x132.toInt ≤ x142.toInt := i_nlt (a := x142.toInt) (b := x132.toInt) rfl rfl c143
                  intro x152 ex152
                  have f21 : x152.toInt = l2_114.toInt - 1 := i_sub (a := l2_114.toInt) (b := 1) ex152 rfl rfl (by omega) (by omega)
                  refine ⟨i_in (by omega) (by omega), ?_⟩
                  intro x158 ex158
                  intro x165 ex165
                  have f22 : x165.toInt = l2_114.toInt - 1 := i_sub (a := l2_114.toInt) (b := 1) ex165 rfl rfl (by omega) (by omega)
                  refine ⟨i_in (by omega) (by omega), ?_⟩
                  intro x166 ex166
                  have j_187 : ∀ (s0_187 : Int32), (s0_187.toInt = zg v_newEnd_114 l3_114.toInt ∨ s0_187.toInt = zg v_newEnd_114 x152.toInt) → w_X12_joinParts_187 Q (w_X12_joinParts_114 p1 Q v_newParts n_114) s0_187 x152 l2_114 l3_114 v_newBegin_114 v_newEnd_114 := by
                    intro s0_187 u187_0
                    unfold w_X12_joinParts_187
                    refine ⟨i_in (by omega) (by omega), ?_⟩
                    intro g187 eg187
                    exact j_218 l2_114 v_newBegin_114 g187 (by omega) (by omega) (by omega) (by first | exact zPj_m u114_0 u187_0 (by assumption) (by omega) (by omega) (by omega) (by omega) (by omega) | exact zPj_c u114_0 (by assumption) (by assumption) (by assumption) (by assumption) (by omega) (by omega) (by omega) (by omega) (by omega)) (by first | exact zPb_e u114_1 (by assumption) (by omega) | exact zPb_w u114_1 (by assumption) (by assumption) (by omega) (by omega))
                  refine ⟨fun c167 => ?_, fun c167 => ?_⟩
                  · have f23 : x158.toInt ≤ x166.toInt := i_le (a := x158.toInt) (b := x166.toInt) rfl rfl c167
                    intro x185 ex185
                    have f24 : x185.toInt = l2_114.toInt - 1 := i_sub (a := l2_114.toInt) (b := 1) ex185 rfl rfl (by omega) (by omega)
                    refine ⟨i_in (by omega) (by omega), ?_⟩
                    intro x186 ex186
                    exact j_187 x186 (by first | exact Or.inl (zg_at (by assumption)) | exact Or.inr (zg_at2 (by assumption) (by omega)))
                  · have f25 : x166.toInt < x158.toInt := i_nle (a := x158.toInt) (b := x166.toInt) rfl rfl c167
                    refine ⟨i_in (by omega) (by omega), ?_⟩
                    intro x175 ex175
                    have f26 : x175.toInt = x158.toInt := congrArg Int32.toInt (ex175.trans ex158.symm)
                    exact j_187 x175 (by first | exact Or.inl (zg_at (by assumption)) | exact Or.inr (zg_at2 (by assumption) (by omega)))
        exact ⟨((-1) * p1.toInt + 2147483648).toNat + 1, j_114   (((-1) * p1.toInt + 2147483648).toNat + 1) p1 p1 v_newBegin_4 v_newEnd_4 (by omega) (by omega) (by omega) (by first | exact zPj_in (by assumption) | exact zPj_k u218_0 (by omega)) (by assumption) (by omega)⟩
      · have f27 : l2_4.toInt < v_newParts.toInt := i_nle (a := v_newParts.toInt) (b := l2_4.toInt) rfl rfl c9
        refine ⟨i_in (by omega) (by omega), ?_⟩
        intro x17 ex17
        refine ⟨i_in (by omega) (by omega), ?_⟩
        intro x24 ex24
        have j_30 : ∀ n_30 : Nat, ∀ (l5_30 : Int32) (v_newBegin_30 : Nat → Int32) (v_newEnd_30 : Nat → Int32), l5_30.toInt ≤ l2_4.toInt → p1.toInt ≤ l5_30.toInt → (zPh v_fault.toInt v_newBegin_30 v_newEnd_30 v_newParts.toInt gh9 x17.toInt x24.toInt l5_30.toInt) → (zPb v_newBegin v_newEnd v_newBegin_30 v_newEnd_30 p1.toInt) → (l5_30.toInt + 2147483649).toNat < n_30 → w_X12_joinParts_30 p1 Q (w_X12_joinParts_4 p1 Q v_newParts n_4) l2_4 x17 x24 n_30 l5_30 v_newBegin_30 v_newEnd_30 := by
          intro n_30
          induction n_30 with
          | zero =>
            intro l5_30 v_newBegin_30 v_newEnd_30 f28 f29 u30_0 u30_1 hm_30
            exfalso; omega
          | succ n_30 ih_30 =>
            intro l5_30 v_newBegin_30 v_newEnd_30 f28 f29 u30_0 u30_1 hm_30
            unfold w_X12_joinParts_30
            unfold w_X12_joinParts_30B
            have j_87 : ((l5_30.toInt ≤ p1.toInt) ∨ (p1.toInt + 1 ≤ l5_30.toInt)) → w_X12_joinParts_87 Q (w_X12_joinParts_4 p1 Q v_newParts n_4) l2_4 x17 x24 l5_30 v_newBegin_30 v_newEnd_30 := by
              intro f30
              unfold w_X12_joinParts_87
              refine ⟨i_in (by omega) (by omega), ?_⟩
              intro g94 eg94
              refine ⟨i_in (by omega) (by omega), ?_⟩
              intro g103 eg103
              intro x104 ex104
              have f31 : x104.toInt = l2_4.toInt + 1 := i_add (a := l2_4.toInt) (b := 1) ex104 rfl rfl (by omega) (by omega)
              exact ih_4 x104 g94 g103 (by omega) (by omega) (by first | assumption | exact zPh_out u30_0 (by assumption) (by assumption) (by omega) (by omega)) (by first | assumption | exact zPb_rf | exact zPb_w u30_1 (by assumption) (by assumption) (by omega) (by omega)) (by have h8_0 := i_rng l2_4; have h8_1 := i_rng x104; omega)
            refine ⟨fun c33 => ?_, fun c33 => ?_⟩
            · have f32 : l5_30.toInt ≤ p1.toInt := i_le (a := l5_30.toInt) (b := p1.toInt) rfl rfl c33
              exact j_87  (by omega)
            · have f33 : p1.toInt < l5_30.toInt := i_nle (a := l5_30.toInt) (b := p1.toInt) rfl rfl c33
              intro x43 ex43
              have f34 : x43.toInt = l5_30.toInt - 1 := i_sub (a := l5_30.toInt) (b := 1) ex43 rfl rfl (by omega) (by omega)
              refine ⟨i_in (by omega) (by omega), ?_⟩
              intro x44 ex44
              refine ⟨fun c46 => ?_, fun c46 => ?_⟩
              · have f35 : x44.toInt ≤ x17.toInt := i_le (a := x44.toInt) (b := x17.toInt) rfl rfl c46
                exact j_87  (by omega)
              · have f36 : x17.toInt < x44.toInt := i_nle (a := x44.toInt) (b := x17.toInt) rfl rfl c46
                intro x62 ex62
                have f37 : x62.toInt = l5_30.toInt - 1 := i_sub (a := l5_30.toInt) (b := 1) ex62 rfl rfl (by omega) (by omega)
                refine ⟨i_in (by omega) (by omega), ?_⟩
                intro x63 ex63
                refine ⟨i_in (by omega) (by omega), ?_⟩
                intro g64 eg64
                intro x78 ex78
                have f38 : x78.toInt = l5_30.toInt - 1 := i_sub (a := l5_30.toInt) (b := 1) ex78 rfl rfl (by omega) (by omega)
                refine ⟨i_in (by omega) (by omega), ?_⟩
                intro x79 ex79
                refine ⟨i_in (by omega) (by omega), ?_⟩
                intro g80 eg80
                intro x81 ex81
                have f39 : x81.toInt = l5_30.toInt + (-1) := i_add (a := l5_30.toInt) (b := (-1)) ex81 rfl rfl (by omega) (by omega)
                exact ih_30 x81 g64 g80 (by omega) (by omega) (by first | exact zPh_in u4_0 (by assumption) (by assumption) (by omega) (by omega) | exact zPh_st u30_0 (by assumption) (by assumption) (by assumption) (by assumption) (by omega) (by omega) (by omega) (by omega) (by omega)) (by first | assumption | exact zPb_w u30_1 (by assumption) (by assumption) (by omega) (by omega)) (by have h8_0 := i_rng l5_30; have h8_1 := i_rng x81; omega)
        exact ⟨(l2_4.toInt + 2147483649).toNat + 1, j_30   ((l2_4.toInt + 2147483649).toNat + 1) l2_4 v_newBegin_4 v_newEnd_4 (by omega) (by omega) (by first | exact zPh_in u4_0 (by assumption) (by assumption) (by omega) (by omega) | exact zPh_st u30_0 (by assumption) (by assumption) (by assumption) (by assumption) (by omega) (by omega) (by omega) (by omega) (by omega)) (by first | assumption | exact zPb_w u30_1 (by assumption) (by assumption) (by omega) (by omega)) (by omega)⟩
  exact ⟨((-1) * x2.toInt + 2147483648).toNat + 1, j_4   (((-1) * x2.toInt + 2147483648).toNat + 1) x2 v_newBegin v_newEnd (by omega) (by omega) (by first | assumption | exact zPh_out u30_0 (by assumption) (by assumption) (by omega) (by omega)) (by first | assumption | exact zPb_rf | exact zPb_w u30_1 (by assumption) (by assumption) (by omega) (by omega)) (by omega)⟩
set_option maxHeartbeats 4000000 in
theorem ok_X12_setNode {p1 : Int32} {p2 : Int32} {v_newNodes : Int32} {v_newParts : Int32} {v_newSort : Nat → Int32} {v_newValue : Nat → Int32} {v_newLeast : Nat → Int32} {v_newMost : Nat → Int32} {v_newFirst : Nat → Int32} {v_newNext : Nat → Int32} {v_newMany : Nat → Int32} {v_newPart : Nat → Int32} {v_newBegin : Nat → Int32} {v_newEnd : Nat → Int32} {v_fault : Int32} {gh9 : Int} {Q : Int32 → Int32 → Int32 → (Nat → Int32) → (Nat → Int32) → (Nat → Int32) → (Nat → Int32) → (Nat → Int32) → (Nat → Int32) → (Nat → Int32) → (Nat → Int32) → (Nat → Int32) → (Nat → Int32) → Prop} (a0 : 0 ≤ p2.toInt) (a1 : p2.toInt ≤ 1) (a2 : 0 ≤ p1.toInt) (a3 : p1.toInt ≤ v_newParts.toInt) (a4 : 0 ≤ v_newParts.toInt) (a5 : v_newParts.toInt ≤ 420) (a6 : 0 ≤ v_newNodes.toInt) (a7 : v_newNodes.toInt ≤ 259) (u0 : zPs v_fault.toInt v_newBegin v_newEnd v_newParts.toInt gh9) (hq : ∀ (r : Int32) (ov_newNodes : Int32) (ov_newParts : Int32) (ov_newSort : Nat → Int32) (ov_newValue : Nat → Int32) (ov_newLeast : Nat → Int32) (ov_newMost : Nat → Int32) (ov_newFirst : Nat → Int32) (ov_newNext : Nat → Int32) (ov_newMany : Nat → Int32) (ov_newPart : Nat → Int32) (ov_newBegin : Nat → Int32) (ov_newEnd : Nat → Int32), 0 ≤ ov_newParts.toInt + 1 → 0 ≤ ov_newParts.toInt → ov_newParts.toInt ≤ 420 → p1.toInt ≤ ov_newParts.toInt → ov_newParts.toInt ≤ v_newParts.toInt → ov_newParts.toInt ≤ v_newParts.toInt + 1 → r.toInt = v_newNodes.toInt → ov_newNodes.toInt = v_newNodes.toInt + 1 → (zPs v_fault.toInt ov_newBegin ov_newEnd ov_newParts.toInt gh9) → (∃ w : Int32, (0 ≤ w.toInt ∧ w.toInt ≤ 1) ∧ zNew v_newSort v_newValue v_newLeast v_newMost v_newFirst v_newNext v_newMany v_newPart ov_newSort ov_newValue ov_newLeast ov_newMost ov_newFirst ov_newNext ov_newMany ov_newPart v_newNodes.toInt (2 : Int32).toInt w.toInt 0 0 (-1) (ov_newParts.toInt - p1.toInt) p1.toInt) → (zPb v_newBegin v_newEnd ov_newBegin ov_newEnd p1.toInt) → Q r ov_newNodes ov_newParts ov_newSort ov_newValue ov_newLeast ov_newMost ov_newFirst ov_newNext ov_newMany ov_newPart ov_newBegin ov_newEnd) : w_X12_setNode p1 p2 v_newNodes v_newParts v_newSort v_newValue v_newLeast v_newMost v_newFirst v_newNext v_newMany v_newPart v_newBegin v_newEnd Q := by
  have q_t : (bz true).toInt = 1 := rfl
  have q_f : (bz false).toInt = 0 := rfl
  have q_0 : (0 : Int32).toInt = 0 := rfl
  have q_1 : (1 : Int32).toInt = 1 := rfl
  have q_2 : (2 : Int32).toInt = 2 := rfl
  unfold w_X12_setNode
  refine ok_X12_joinParts (v_fault := v_fault) (gh9 := _) (by omega) (by omega) (by omega) (by omega) (by first | assumption | omega) (fun r2_0 r2_1 r2_2 f1 f2 f3 f4 f5 f6 u2_0 u2_1 => ?_)
  have j_16 : ∀ (s0_16 : Int32), ((s0_16.toInt = 0 ∧ p2.toInt = 0) ∨ (s0_16.toInt = 1)) → w_X12_setNode_16 p1 Q s0_16 2 v_newNodes r2_0 v_newSort v_newValue v_newLeast v_newMost v_newFirst v_newNext v_newMany v_newPart r2_1 r2_2 := by
    intro s0_16 f7
    unfold w_X12_setNode_16
    refine ok_X12_made (by omega) (by omega) (fun r16 r16_0 r16_1 r16_2 r16_3 r16_4 r16_5 r16_6 r16_7 r16_8 f8 f9 u16_0 => ?_)
    refine ⟨i_in (by omega) (by omega), ?_⟩
    intro g26 eg26
    intro x37 ex37
    have f10 : x37.toInt = r2_0.toInt - p1.toInt := i_sub (a := r2_0.toInt) (b := p1.toInt) ex37 rfl rfl (by omega) (by omega)
    refine ⟨i_in (by omega) (by omega), ?_⟩
    intro g38 eg38
    exact hq r16 r16_0 r2_0 r16_1 r16_2 r16_3 r16_4 r16_5 r16_6 g38 g26 r2_1 r2_2 (by omega) (by omega) (by omega) (by omega) (by omega) (by omega) (by omega) (by omega) (by assumption) (by exact zNew_set u16_0 (by assumption) (by assumption) (by omega) (by omega) (by omega) (by omega)) (by assumption)
  refine ⟨fun c8 => ?_, fun c8 => ?_⟩
  · have f11 : p2.toInt = 0 := i_eq (a := p2.toInt) (b := 0) rfl rfl c8
    exact j_16 0 (by omega)
  · have f12 : p2.toInt ≠ 0 := i_ne (a := p2.toInt) (b := 0) rfl rfl c8
    exact j_16 1 (by omega)
set_option maxHeartbeats 4000000 in
theorem ok_X12_readSet {v_taped : Int32} {v_newNodes : Int32} {v_newParts : Int32} {v_fault : Int32} {v_faultAt : Int32} {v_at : Int32} {v_memberValue : Int32} {v_memberEnd : Int32} {v_tape : Nat → Int32} {v_newSort : Nat → Int32} {v_newValue : Nat → Int32} {v_newLeast : Nat → Int32} {v_newMost : Nat → Int32} {v_newFirst : Nat → Int32} {v_newNext : Nat → Int32} {v_newMany : Nat → Int32} {v_newPart : Nat → Int32} {v_newBegin : Nat → Int32} {v_newEnd : Nat → Int32} {v_rowFirst : Nat → Int32} {v_rowLast : Nat → Int32} {v_rowMany : Nat → Int32} {v_rowsFirst : Nat → Int32} {v_rowsLast : Nat → Int32} {v_rowsMany : Nat → Int32} {v_groupSort : Nat → Int32} {v_groupValue : Nat → Int32} {v_newCaptures : Int32} {v_depth : Int32} {gi9 : Int} {Q : Int32 → Int32 → Int32 → Int32 → Int32 → Int32 → Int32 → Int32 → (Nat → Int32) → (Nat → Int32) → (Nat → Int32) → (Nat → Int32) → (Nat → Int32) → (Nat → Int32) → (Nat → Int32) → (Nat → Int32) → (Nat → Int32) → (Nat → Int32) → Prop} (a0 : 0 ≤ v_taped.toInt) (a1 : v_taped.toInt ≤ 200) (a2 : 0 ≤ v_fault.toInt) (a3 : 0 ≤ v_at.toInt) (a4 : v_at.toInt + 1 ≤ v_taped.toInt) (a5 : 0 ≤ v_newNodes.toInt) (a6 : v_newNodes.toInt ≤ 259) (a7 : 0 ≤ v_newParts.toInt) (a8 : v_newParts.toInt ≤ 2 * v_at.toInt) (b0 : rp (fun k v => 32 ≤ v ∧ v ≤ 126) v_tape 0 v_taped.toInt) (u0 : zRS v_fault.toInt v_newSort v_newValue v_newLeast v_newMost v_newFirst v_newNext v_newMany v_newPart v_newBegin v_newEnd v_rowFirst v_rowLast v_rowMany v_rowsFirst v_rowsLast v_rowsMany v_groupSort v_groupValue v_depth.toInt v_newNodes.toInt v_newParts.toInt v_newCaptures.toInt gi9 v_at.toInt (16 * v_at.toInt)) (hq : ∀ (r : Int32) (ov_newNodes : Int32) (ov_newParts : Int32) (ov_fault : Int32) (ov_faultAt : Int32) (ov_at : Int32) (ov_memberValue : Int32) (ov_memberEnd : Int32) (ov_newSort : Nat → Int32) (ov_newValue : Nat → Int32) (ov_newLeast : Nat → Int32) (ov_newMost : Nat → Int32) (ov_newFirst : Nat → Int32) (ov_newNext : Nat → Int32) (ov_newMany : Nat → Int32) (ov_newPart : Nat → Int32) (ov_newBegin : Nat → Int32) (ov_newEnd : Nat → Int32), 0 ≤ ov_at.toInt → 1 ≤ ov_at.toInt → 2 ≤ ov_at.toInt → v_at.toInt + 1 ≤ ov_at.toInt → 0 ≤ ov_fault.toInt + 1 → 0 ≤ ov_fault.toInt → v_fault.toInt ≤ ov_fault.toInt → ((1 ≤ ov_fault.toInt) ∨ (v_at.toInt ≤ v_taped.toInt)) → ((1 ≤ ov_fault.toInt) ∨ (ov_at.toInt ≤ 214)) → v_at.toInt + 2 ≤ ov_at.toInt → ov_at.toInt ≤ 221 → ((1 ≤ ov_fault.toInt) ∨ (ov_at.toInt ≤ v_taped.toInt)) → 0 ≤ ov_newParts.toInt + 1 → 0 ≤ ov_newParts.toInt → ov_newParts.toInt ≤ 420 → v_newParts.toInt ≤ ov_newParts.toInt → r.toInt = v_newNodes.toInt → ov_newNodes.toInt = v_newNodes.toInt + 1 → ov_newParts.toInt ≤ 419 → ov_newParts.toInt + v_at.toInt ≤ ov_at.toInt + v_newParts.toInt → (zRP ov_fault.toInt ov_newSort ov_newValue ov_newLeast ov_newMost ov_newFirst ov_newNext ov_newMany ov_newPart ov_newBegin ov_newEnd v_rowFirst v_rowLast v_rowMany v_rowsFirst v_rowsLast v_rowsMany v_groupSort v_groupValue v_depth.toInt r.toInt ov_newNodes.toInt ov_newParts.toInt v_newCaptures.toInt gi9 ov_at.toInt (16 * ov_at.toInt)) → Q r ov_newNodes ov_newParts ov_fault ov_faultAt ov_at ov_memberValue ov_memberEnd ov_newSort ov_newValue ov_newLeast ov_newMost ov_newFirst ov_newNext ov_newMany ov_newPart ov_newBegin ov_newEnd) : w_X12_readSet v_taped v_newNodes v_newParts v_fault v_faultAt v_at v_memberValue v_memberEnd v_tape v_newSort v_newValue v_newLeast v_newMost v_newFirst v_newNext v_newMany v_newPart v_newBegin v_newEnd Q := by
  have q_t : (bz true).toInt = 1 := rfl
  have q_f : (bz false).toInt = 0 := rfl
  have q_0 : (0 : Int32).toInt = 0 := rfl
  have q_1 : (1 : Int32).toInt = 1 := rfl
  have q_3 : (3 : Int32).toInt = 3 := rfl
  unfold w_X12_readSet
  intro x10 ex10
  have f1 : x10.toInt = v_at.toInt + 1 := i_add (a := v_at.toInt) (b := 1) ex10 rfl rfl (by omega) (by omega)
  refine ok_X12_signAt (by omega) (by omega) (by omega) (rp_mono b0 (by omega) (by omega)) (fun r14 f2 f3 f4 f5 f6 f7 => ?_)
  have j_27 : ∀ (s0_27 : Int32), ((s0_27.toInt = 0) ∨ (s0_27.toInt = 1 ∧ r14.toInt = 94)) → w_X12_readSet_27 v_taped v_tape Q s0_27 v_newParts x10 v_newNodes v_newParts v_fault v_faultAt v_at v_memberValue v_memberEnd v_newSort v_newValue v_newLeast v_newMost v_newFirst v_newNext v_newMany v_newPart v_newBegin v_newEnd := by
    intro s0_27 f8
    unfold w_X12_readSet_27
    have j_38 : ∀ (s0_38 : Int32), ((s0_38.toInt = 0 ∧ s0_27.toInt = 0) ∨ (s0_38.toInt = 1)) → w_X12_readSet_38 v_taped v_tape Q s0_38 x10 v_newParts s0_27 v_newNodes v_newParts v_fault v_faultAt v_at v_memberValue v_memberEnd v_newSort v_newValue v_newLeast v_newMost v_newFirst v_newNext v_newMany v_newPart v_newBegin v_newEnd := by
      intro s0_38 f9
      unfold w_X12_readSet_38
      intro x38 ex38
      have f10 : x38.toInt = x10.toInt + s0_38.toInt := i_add (a := x10.toInt) (b := s0_38.toInt) ex38 rfl rfl (by omega) (by omega)
      have j_43 : ∀ n_43 : Nat, ∀ (l2_43 : Int32) (l4_43 : Int32) (v_newParts_43 : Int32) (v_fault_43 : Int32) (v_faultAt_43 : Int32) (v_memberValue_43 : Int32) (v_memberEnd_43 : Int32) (v_newBegin_43 : Nat → Int32) (v_newEnd_43 : Nat → Int32), x38.toInt ≤ l2_43.toInt → 0 ≤ l4_43.toInt → l4_43.toInt ≤ 1 → v_fault.toInt ≤ v_fault_43.toInt → v_newParts.toInt ≤ v_newParts_43.toInt → ((l4_43.toInt ≠ 0) ∨ (l2_43.toInt + 1 ≤ v_taped.toInt)) → ((1 ≤ v_fault_43.toInt) ∨ (l2_43.toInt ≤ 213)) → v_at.toInt + v_newParts_43.toInt ≤ l2_43.toInt + v_newParts.toInt → l2_43.toInt ≤ 220 → (zRs1 v_fault.toInt v_fault_43.toInt v_newBegin v_newEnd v_newBegin_43 v_newEnd_43 v_newParts.toInt v_newParts_43.toInt v_at.toInt l2_43.toInt) → ((-1) * l2_43.toInt + 2147483648).toNat < n_43 → w_X12_readSet_43 v_taped v_tape Q v_newParts s0_27 v_newNodes v_at v_newSort v_newValue v_newLeast v_newMost v_newFirst v_newNext v_newMany v_newPart n_43 l2_43 l4_43 v_newParts_43 v_fault_43 v_faultAt_43 v_memberValue_43 v_memberEnd_43 v_newBegin_43 v_newEnd_43 := by
        intro n_43
        induction n_43 with
        | zero =>
          intro l2_43 l4_43 v_newParts_43 v_fault_43 v_faultAt_43 v_memberValue_43 v_memberEnd_43 v_newBegin_43 v_newEnd_43 f11 f12 f13 f14 f15 f16 f17 f18 f19 u43_0 hm_43
          exfalso; omega
        | succ n_43 ih_43 =>
          intro l2_43 l4_43 v_newParts_43 v_fault_43 v_faultAt_43 v_memberValue_43 v_memberEnd_43 v_newBegin_43 v_newEnd_43 f11 f12 f13 f14 f15 f16 f17 f18 f19 u43_0 hm_43
          unfold w_X12_readSet_43
          unfold w_X12_readSet_43B
          have j_163 : ((1 ≤ v_fault_43.toInt) ∨ (l2_43.toInt + 1 ≤ v_taped.toInt)) → w_X12_readSet_163 Q v_newParts l2_43 s0_27 v_newNodes v_newParts_43 v_fault_43 v_faultAt_43 v_at v_memberValue_43 v_memberEnd_43 v_newSort v_newValue v_newLeast v_newMost v_newFirst v_newNext v_newMany v_newPart v_newBegin_43 v_newEnd_43 := by
            intro f20
            unfold w_X12_readSet_163
            intro x166 ex166
            have f21 : x166.toInt = l2_43.toInt + 1 := i_add (a := l2_43.toInt) (b := 1) ex166 rfl rfl (by omega) (by omega)
            obtain ⟨hφ9, hb9, h9, hP9, hh9⟩ := u43_0
            refine ok_X12_setNode (v_fault := v_fault_43) (gh9 := _) (by omega) (by omega) (by omega) (by omega) (by omega) (by omega) (by omega) (by omega) (by exact hP9) (fun r173 r173_0 r173_1 r173_2 r173_3 r173_4 r173_5 r173_6 r173_7 r173_8 r173_9 r173_10 r173_11 f22 f23 f24 f25 f26 f27 f28 f29 u173_0 u173_1 u173_2 => ?_)
            exact hq r173 r173_0 r173_1 v_fault_43 v_faultAt_43 x166 v_memberValue_43 v_memberEnd_43 r173_2 r173_3 r173_4 r173_5 r173_6 r173_7 r173_8 r173_9 r173_10 r173_11 (by omega) (by omega) (by omega) (by omega) (by omega) (by omega) (by omega) (by omega) (by omega) (by omega) (by omega) (by omega) (by omega) (by omega) (by omega) (by omega) (by omega) (by omega) (by omega) (by omega) (by obtain ⟨w9, hw9, hn9⟩ := u173_1; exact zRP_set u0 u173_0 (zPb_tr hb9 u173_2 (by omega)) hn9 hw9 (by omega) (by omega) (by omega) (by omega) (by omega) (Or.inr (by omega)) (by omega) (Or.inr (by omega)))
          refine ⟨fun c45 => ?_, fun c45 => ?_⟩
          · have f30 : l4_43.toInt = 0 := i_eq (a := l4_43.toInt) (b := 0) rfl rfl c45
            exact j_163  (by omega)
          · have f31 : l4_43.toInt ≠ 0 := i_ne (a := l4_43.toInt) (b := 0) rfl rfl c45
            refine ⟨fun c52 => ?_, fun c52 => ?_⟩
            · have f32 : v_fault_43.toInt ≠ 0 := i_ne (a := v_fault_43.toInt) (b := 0) rfl rfl c52
              exact j_163  (by omega)
            · have f33 : v_fault_43.toInt = 0 := i_eq (a := v_fault_43.toInt) (b := 0) rfl rfl c52
              refine ok_X12_member (by omega) (by omega) (by omega) (by omega) (by omega) (rp_mono b0 (by omega) (by omega)) (fun r57_0 r57_1 r57_2 r57_3 f34 f35 f36 f37 f38 f39 u57_0 => ?_)
              have j_128 : ∀ (l2_128 : Int32) (l6_128 : Int32) (v_fault_128 : Int32) (v_faultAt_128 : Int32) (v_memberValue_128 : Int32) (v_memberEnd_128 : Int32), l2_43.toInt + 1 ≤ l2_128.toInt → l2_128.toInt ≤ l2_43.toInt + 13 → v_fault.toInt ≤ v_fault_128.toInt → ((1 ≤ v_fault_128.toInt) ∨ (l2_128.toInt ≤ 213)) → l2_128.toInt ≤ 220 → l2_128.toInt ≤ 219 → 2 ≤ v_memberEnd_128.toInt → v_memberEnd_128.toInt ≤ 219 → (zRs2 v_fault_128.toInt r57_2.toInt l6_128.toInt l2_43.toInt l2_128.toInt) → w_X12_readSet_128 v_taped v_tape Q (w_X12_readSet_43 v_taped v_tape Q v_newParts s0_27 v_newNodes v_at v_newSort v_newValue v_newLeast v_newMost v_newFirst v_newNext v_newMany v_newPart n_43) l2_128 r57_2 l6_128 v_newParts_43 v_fault_128 v_faultAt_128 v_memberValue_128 v_memberEnd_128 v_newBegin_43 v_newEnd_43 := by
                intro l2_128 l6_128 v_fault_128 v_faultAt_128 v_memberValue_128 v_memberEnd_128 f40 f41 f42 f43 f44 f45 f46 f47 u128_0
                unfold w_X12_readSet_128
                have j_143 : ∀ (v_newParts_143 : Int32) (v_newBegin_143 : Nat → Int32) (v_newEnd_143 : Nat → Int32), v_newParts.toInt ≤ v_newParts_143.toInt → v_newParts_43.toInt ≤ v_newParts_143.toInt → v_newParts_143.toInt ≤ v_newParts_43.toInt + 1 → ((v_newParts_143.toInt = v_newParts_43.toInt) ∨ (v_fault_128.toInt = 0 ∧ v_newParts_143.toInt = v_newParts_43.toInt + 1)) → (zRs1 v_fault.toInt v_fault_128.toInt v_newBegin v_newEnd v_newBegin_143 v_newEnd_143 v_newParts.toInt v_newParts_143.toInt v_at.toInt l2_128.toInt) → w_X12_readSet_143 v_taped v_tape Q (w_X12_readSet_43 v_taped v_tape Q v_newParts s0_27 v_newNodes v_at v_newSort v_newValue v_newLeast v_newMost v_newFirst v_newNext v_newMany v_newPart n_43) l2_128 v_newParts_143 v_fault_128 v_faultAt_128 v_memberValue_128 v_memberEnd_128 v_newBegin_143 v_newEnd_143 := by
                  intro v_newParts_143 v_newBegin_143 v_newEnd_143 f48 f49 f50 f51 u143_0
                  unfold w_X12_readSet_143
                  refine ok_X12_signAt (by omega) (by omega) (by omega) (rp_mono b0 (by omega) (by omega)) (fun r145 f52 f53 f54 f55 f56 f57 => ?_)
                  have j_158 : ∀ (s0_158 : Int32), ((s0_158.toInt ≠ 0) ∨ (l2_128.toInt + 1 ≤ v_taped.toInt)) → ((s0_158.toInt = 0 ∧ r145.toInt = 93) ∨ (s0_158.toInt = 1)) → w_X12_readSet_158 Q (w_X12_readSet_43 v_taped v_tape Q v_newParts s0_27 v_newNodes v_at v_newSort v_newValue v_newLeast v_newMost v_newFirst v_newNext v_newMany v_newPart n_43) s0_158 l2_128 v_newParts_143 v_fault_128 v_faultAt_128 v_memberValue_128 v_memberEnd_128 v_newBegin_143 v_newEnd_143 := by
                    intro s0_158 f58 f59
                    unfold w_X12_readSet_158
                    exact ih_43 l2_128 s0_158 v_newParts_143 v_fault_128 v_faultAt_128 v_memberValue_128 v_memberEnd_128 v_newBegin_143 v_newEnd_143 (by omega) (by omega) (by omega) (by omega) (by omega) (by omega) (by omega) (by omega) (by omega) (by first | assumption | exact zRs1_0 u0 rfl (by omega)) (by have h8_0 := i_rng l2_128; have h8_1 := i_rng l2_43; omega)
                  refine ⟨fun c150 => ?_, fun c150 => ?_⟩
                  · have f60 : r145.toInt = 93 := i_eq (a := r145.toInt) (b := 93) rfl rfl c150
                    exact j_158 0 (by omega) (by omega)
                  · have f61 : r145.toInt ≠ 93 := i_ne (a := r145.toInt) (b := 93) rfl rfl c150
                    exact j_158 1 (by omega) (by omega)
                refine ⟨fun c132 => ?_, fun c132 => ?_⟩
                · have f62 : v_fault_128.toInt ≠ 0 := i_ne (a := v_fault_128.toInt) (b := 0) rfl rfl c132
                  exact j_143 v_newParts_43 v_newBegin_43 v_newEnd_43 (by omega) (by omega) (by omega) (by omega) (by first | exact zRs1_a u43_0 u128_0 (by assumption) (by assumption) (by omega) (by omega) (by omega) (by omega) | exact zRs1_m u43_0 (by omega) (by omega))
                · have f63 : v_fault_128.toInt = 0 := i_eq (a := v_fault_128.toInt) (b := 0) rfl rfl c132
                  refine ok_X12_addPart (by omega) (by omega) (fun r140_0 r140_1 r140_2 f64 u140_0 u140_1 => ?_)
                  exact j_143 r140_0 r140_1 r140_2 (by omega) (by omega) (by omega) (by omega) (by first | exact zRs1_a u43_0 u128_0 (by assumption) (by assumption) (by omega) (by omega) (by omega) (by omega) | exact zRs1_m u43_0 (by omega) (by omega))
              refine ⟨fun c79 => ?_, fun c79 => ?_⟩
              · have f65 : r57_0.toInt ≠ 0 := i_ne (a := r57_0.toInt) (b := 0) rfl rfl c79
                exact j_128 r57_3 r57_2 r57_0 r57_1 r57_2 r57_3 (by omega) (by omega) (by omega) (by omega) (by omega) (by omega) (by omega) (by omega) (by first | exact zRs2_a (by assumption) (by assumption) | exact zRs2_b u57_0 (by omega) u100_0 (by omega) (by omega) (by omega) (by omega))
              · have f66 : r57_0.toInt = 0 := i_eq (a := r57_0.toInt) (b := 0) rfl rfl c79
                refine ok_X12_signAt (by omega) (by omega) (by omega) (rp_mono b0 (by omega) (by omega)) (fun r84 f67 f68 f69 f70 f71 f72 => ?_)
                refine ⟨fun c89 => ?_, fun c89 => ?_⟩
                · have f73 : r84.toInt ≠ 45 := i_ne (a := r84.toInt) (b := 45) rfl rfl c89
                  exact j_128 r57_3 r57_2 r57_0 r57_1 r57_2 r57_3 (by omega) (by omega) (by omega) (by omega) (by omega) (by omega) (by omega) (by omega) (by first | exact zRs2_a (by assumption) (by assumption) | exact zRs2_b u57_0 (by omega) u100_0 (by omega) (by omega) (by omega) (by omega))
                · have f74 : r84.toInt = 45 := i_eq (a := r84.toInt) (b := 45) rfl rfl c89
                  intro x94 ex94
                  have f75 : x94.toInt = r57_3.toInt + 1 := i_add (a := r57_3.toInt) (b := 1) ex94 rfl rfl (by omega) (by omega)
                  refine ok_X12_member (by omega) (by omega) (by omega) (by omega) (by omega) (rp_mono b0 (by omega) (by omega)) (fun r100_0 r100_1 r100_2 r100_3 f76 f77 f78 f79 f80 f81 u100_0 => ?_)
                  refine ⟨fun c118 => ?_, fun c118 => ?_⟩
                  · have f82 : r57_2.toInt ≤ r100_2.toInt := i_le (a := r57_2.toInt) (b := r100_2.toInt) rfl rfl c118
                    exact j_128 r100_3 r100_2 r100_0 r100_1 r100_2 r100_3 (by omega) (by omega) (by omega) (by omega) (by omega) (by omega) (by omega) (by omega) (by first | exact zRs2_a (by assumption) (by assumption) | exact zRs2_b u57_0 (by omega) u100_0 (by omega) (by omega) (by omega) (by omega))
                  · have f83 : r100_2.toInt < r57_2.toInt := i_nle (a := r57_2.toInt) (b := r100_2.toInt) rfl rfl c118
                    refine ok_X12_fail (by omega) (by omega) (by omega) (fun r125_0 r125_1 f84 f85 f86 => ?_)
                    exact j_128 r100_3 r100_2 r125_0 r125_1 r100_2 r100_3 (by omega) (by omega) (by omega) (by omega) (by omega) (by omega) (by omega) (by omega) (by first | exact zRs2_a (by assumption) (by assumption) | exact zRs2_b u57_0 (by omega) u100_0 (by omega) (by omega) (by omega) (by omega))
      exact ⟨((-1) * x38.toInt + 2147483648).toNat + 1, j_43   (((-1) * x38.toInt + 2147483648).toNat + 1) x38 1 v_newParts v_fault v_faultAt v_memberValue v_memberEnd v_newBegin v_newEnd (by omega) (by omega) (by omega) (by omega) (by omega) (by omega) (by omega) (by omega) (by omega) (by first | assumption | exact zRs1_0 u0 rfl (by omega)) (by omega)⟩
    refine ⟨fun c30 => ?_, fun c30 => ?_⟩
    · have f87 : s0_27.toInt = 0 := i_eq (a := s0_27.toInt) (b := 0) rfl rfl c30
      exact j_38 0 (by omega)
    · have f88 : s0_27.toInt ≠ 0 := i_ne (a := s0_27.toInt) (b := 0) rfl rfl c30
      exact j_38 1 (by omega)
  refine ⟨fun c19 => ?_, fun c19 => ?_⟩
  · have f89 : r14.toInt ≠ 94 := i_ne (a := r14.toInt) (b := 94) rfl rfl c19
    exact j_27 0 (by omega)
  · have f90 : r14.toInt = 94 := i_eq (a := r14.toInt) (b := 94) rfl rfl c19
    exact j_27 1 (by omega)
