set_option maxHeartbeats 4000000 in
theorem ok_X12_tabled {p1 : Int32} {v_boundMany : Int32} {v_acts : Int32} {v_labels : Int32} {v_tasks : Int32} {v_eaters : Int32} {v_reached : Int64} {v_reachesEnd : Bool} {v_many : Nat → Int32} {v_sort : Nat → Int32} {v_value : Nat → Int32} {v_least : Nat → Int32} {v_most : Nat → Int32} {v_parts : Nat → Int32} {v_end : Nat → Int32} {v_size : Nat → Int32} {v_positions : Nat → Int32} {v_firstPart : Nat → Int32} {v_mayEmpty : Nat → Bool} {v_inCase : Nat → Bool} {v_partBegin : Nat → Int32} {v_partEnd : Nat → Int32} {v_isBound : Nat → Bool} {v_bounds : Nat → Int32} {v_act : Nat → Int32} {v_actA : Nat → Int32} {v_actB : Nat → Int32} {v_labelAt : Nat → Int32} {v_task : Nat → Int32} {v_taskA : Nat → Int32} {v_taskB : Nat → Int32} {v_held : Nat → Int32} {v_follows : Nat → Int64} {v_endsAfter : Nat → Bool} {v_eaterOf : Nat → Int32} {v_eaterNode : Nat → Int32} {v_isGone : Nat → Bool} {v_walk : Nat → Int32} {v_states : Nat → Int32} {v_stateSet : Nat → Int64} {v_isTaken : Nat → Bool} {v_classes : Nat → Int32} {v_classTakes : Nat → Int64} {v_classOf : Nat → Int32} {v_leads : Nat → Int32} {v_holder : Nat → Int32} {v_captures : Nat → Int32} {Q : Int32 → Int32 → Int32 → Int32 → Int32 → Int32 → Int64 → Bool → (Nat → Bool) → (Nat → Int32) → (Nat → Int32) → (Nat → Int32) → (Nat → Int32) → (Nat → Int32) → (Nat → Int32) → (Nat → Int32) → (Nat → Int32) → (Nat → Int32) → (Nat → Int64) → (Nat → Bool) → (Nat → Int32) → (Nat → Int32) → (Nat → Bool) → (Nat → Int32) → (Nat → Int32) → (Nat → Int64) → (Nat → Bool) → (Nat → Int32) → (Nat → Int64) → (Nat → Int32) → (Nat → Int32) → Prop} (a0 : 0 ≤ p1.toInt) (a1 : p1.toInt ≤ 5) (a2 : 0 ≤ v_boundMany.toInt) (a3 : v_boundMany.toInt ≤ 3000) (b0 : rp (fun k v => 0 ≤ v ∧ v ≤ 65535) v_bounds 0 v_boundMany.toInt) (u0 : zSl v_sort v_value v_least v_most v_holder v_parts v_end v_firstPart v_partBegin v_partEnd (220 * p1.toInt) (420 * p1.toInt) (zg v_many p1.toInt) (zg v_captures p1.toInt)) (u1 : zMs v_sort v_least v_most v_end v_size v_positions (220 * p1.toInt) 0 (zg v_many p1.toInt)) (u2 : zNo v_isBound) (hq : ∀ (r : Int32) (ov_boundMany : Int32) (ov_acts : Int32) (ov_labels : Int32) (ov_tasks : Int32) (ov_eaters : Int32) (ov_reached : Int64) (ov_reachesEnd : Bool) (ov_isBound : Nat → Bool) (ov_bounds : Nat → Int32) (ov_act : Nat → Int32) (ov_actA : Nat → Int32) (ov_actB : Nat → Int32) (ov_labelAt : Nat → Int32) (ov_task : Nat → Int32) (ov_taskA : Nat → Int32) (ov_taskB : Nat → Int32) (ov_held : Nat → Int32) (ov_follows : Nat → Int64) (ov_endsAfter : Nat → Bool) (ov_eaterOf : Nat → Int32) (ov_eaterNode : Nat → Int32) (ov_isGone : Nat → Bool) (ov_walk : Nat → Int32) (ov_states : Nat → Int32) (ov_stateSet : Nat → Int64) (ov_isTaken : Nat → Bool) (ov_classes : Nat → Int32) (ov_classTakes : Nat → Int64) (ov_classOf : Nat → Int32) (ov_leads : Nat → Int32), 0 ≤ r.toInt + 7 → r.toInt ≤ 0 → 0 ≤ ov_boundMany.toInt → ov_boundMany.toInt ≤ 3000 → ((r.toInt = 0) ∨ (r.toInt + 6 = 0) ∨ (r.toInt + 7 = 0)) → rp (fun k v => 0 ≤ v ∧ v ≤ 65535) ov_bounds 0 ov_boundMany.toInt → (zNo ov_isBound) → (r.toInt = 0 → (zTb ov_states ov_classes ov_leads ov_classOf 0 ov_boundMany.toInt ∧ (1 ≤ ov_boundMany.toInt ∧ ov_boundMany.toInt ≤ 260) ∧ zg ov_bounds 0 = 0)) → Q r ov_boundMany ov_acts ov_labels ov_tasks ov_eaters ov_reached ov_reachesEnd ov_isBound ov_bounds ov_act ov_actA ov_actB ov_labelAt ov_task ov_taskA ov_taskB ov_held ov_follows ov_endsAfter ov_eaterOf ov_eaterNode ov_isGone ov_walk ov_states ov_stateSet ov_isTaken ov_classes ov_classTakes ov_classOf ov_leads) : w_X12_tabled p1 v_boundMany v_acts v_labels v_tasks v_eaters v_reached v_reachesEnd v_many v_sort v_value v_least v_most v_parts v_end v_size v_positions v_firstPart v_mayEmpty v_inCase v_partBegin v_partEnd v_isBound v_bounds v_act v_actA v_actB v_labelAt v_task v_taskA v_taskB v_held v_follows v_endsAfter v_eaterOf v_eaterNode v_isGone v_walk v_states v_stateSet v_isTaken v_classes v_classTakes v_classOf v_leads Q := by
  have q_t : (bz true).toInt = 1 := rfl
  have q_f : (bz false).toInt = 0 := rfl
  have q_0 : (0 : Int32).toInt = 0 := rfl
  have q_2 : (2 : Int32).toInt = 2 := rfl
  unfold w_X12_tabled
  refine ok_X12_bars (v_holder := v_holder) (v_parts := v_parts) (v_end := v_end) (v_firstPart := v_firstPart) (v_partBegin := v_partBegin) (v_partEnd := v_partEnd) (v_captures := v_captures) (by omega) (by omega) (by exact u0) (fun r3 f1 u3_0 u3_1 => ?_)
  refine ⟨fun c8 => ?_, fun c8 => ?_⟩
  · have f2 : r3.toInt = 0 := i_eq (a := r3.toInt) (b := 0) rfl rfl c8
    obtain ⟨N9, hN9⟩ : ∃ N9 : Nat, (N9 : Int) = 65409 := ⟨65409, rfl⟩
    refine ok_X12_markBounds (v_least := v_least) (v_most := v_most) (v_holder := v_holder) (v_end := v_end) (v_captures := v_captures) (gN9 := N9) (by omega) (by omega) (by exact u0) (by exact hN9) (fun r15_0 u15_0 => ?_)
    refine ok_X12_findBounds (gN9 := N9) (by exact hN9) (by have h9 := zNo_th hN9 u2; omega) (fun r19_0 r19_1 r19_2 f3 f4 f5 f6 f7 f8 f9 f10 h11 u19_0 u19_1 => ?_)
    refine ok_X12_makeTable (v_holder := v_holder) (v_many := v_many) (v_captures := v_captures) (v_size := v_size) (v_positions := v_positions) (by omega) (by omega) (by omega) (by omega) (by omega) (by omega) (rp_mono h11 (by omega) (by omega)) (by exact u0) (by exact u1) (by exact u3_0 (by omega) (by decide)) (by exact (u3_1 (by omega)).1 (by decide)) (by exact (u3_1 (by omega)).2 (by decide)) (fun r25 r25_0 r25_1 r25_2 r25_3 r25_4 r25_5 r25_6 r25_7 r25_8 r25_9 r25_10 r25_11 r25_12 r25_13 r25_14 r25_15 r25_16 r25_17 r25_18 r25_19 r25_20 r25_21 r25_22 r25_23 r25_24 r25_25 r25_26 f12 f13 f14 f15 f16 f17 f18 f19 f20 f21 f22 f23 f24 u25_0 u25_1 => ?_)
    exact hq r25 r19_0 r25_0 r25_1 r25_2 r25_3 r25_4 r25_5 r19_1 r19_2 r25_6 r25_7 r25_8 r25_9 r25_10 r25_11 r25_12 r25_13 r25_14 r25_15 r25_16 r25_17 r25_18 r25_19 r25_20 r25_21 r25_22 r25_23 r25_24 r25_25 r25_26 (by omega) (by omega) (by omega) (by omega) (by omega) (rp_mono h11 (by omega) (by omega)) (by exact u19_0) (by exact fun z => ⟨u25_0 z, ⟨by omega, by omega⟩, u19_1⟩)
  · have f25 : r3.toInt ≠ 0 := i_ne (a := r3.toInt) (b := 0) rfl rfl c8
    exact hq r3 v_boundMany v_acts v_labels v_tasks v_eaters v_reached v_reachesEnd v_isBound v_bounds v_act v_actA v_actB v_labelAt v_task v_taskA v_taskB v_held v_follows v_endsAfter v_eaterOf v_eaterNode v_isGone v_walk v_states v_stateSet v_isTaken v_classes v_classTakes v_classOf v_leads (by omega) (by omega) (by omega) (by omega) (by omega) (rp_mono b0 (by omega) (by omega)) (by exact u2) (by exact fun z => absurd z (by omega))
set_option maxHeartbeats 4000000 in
theorem ok_X12_table {p1 : Int32} {v_finding : Int32} {v_boundMany : Int32} {v_acts : Int32} {v_labels : Int32} {v_tasks : Int32} {v_eaters : Int32} {v_reached : Int64} {v_reachesEnd : Bool} {v_isThere : Nat → Bool} {v_many : Nat → Int32} {v_sort : Nat → Int32} {v_value : Nat → Int32} {v_least : Nat → Int32} {v_most : Nat → Int32} {v_parts : Nat → Int32} {v_end : Nat → Int32} {v_size : Nat → Int32} {v_positions : Nat → Int32} {v_firstPart : Nat → Int32} {v_mayEmpty : Nat → Bool} {v_inCase : Nat → Bool} {v_partBegin : Nat → Int32} {v_partEnd : Nat → Int32} {v_isBound : Nat → Bool} {v_bounds : Nat → Int32} {v_act : Nat → Int32} {v_actA : Nat → Int32} {v_actB : Nat → Int32} {v_labelAt : Nat → Int32} {v_task : Nat → Int32} {v_taskA : Nat → Int32} {v_taskB : Nat → Int32} {v_held : Nat → Int32} {v_follows : Nat → Int64} {v_endsAfter : Nat → Bool} {v_eaterOf : Nat → Int32} {v_eaterNode : Nat → Int32} {v_isGone : Nat → Bool} {v_walk : Nat → Int32} {v_states : Nat → Int32} {v_stateSet : Nat → Int64} {v_isTaken : Nat → Bool} {v_classes : Nat → Int32} {v_classTakes : Nat → Int64} {v_classOf : Nat → Int32} {v_leads : Nat → Int32} {v_captures : Nat → Int32} {v_holder : Nat → Int32} {Q : Int32 → Int32 → Int32 → Int32 → Int32 → Int32 → Int32 → Int32 → Int64 → Bool → (Nat → Bool) → (Nat → Int32) → (Nat → Int32) → (Nat → Int32) → (Nat → Int32) → (Nat → Int32) → (Nat → Int32) → (Nat → Int32) → (Nat → Int32) → (Nat → Int32) → (Nat → Int64) → (Nat → Bool) → (Nat → Int32) → (Nat → Int32) → (Nat → Bool) → (Nat → Int32) → (Nat → Int32) → (Nat → Int64) → (Nat → Bool) → (Nat → Int32) → (Nat → Int64) → (Nat → Int32) → (Nat → Int32) → Prop} (a0 : 0 ≤ v_boundMany.toInt) (a1 : v_boundMany.toInt ≤ 3000) (b0 : rp (fun k v => 0 ≤ v ∧ v ≤ 65535) v_bounds 0 v_boundMany.toInt) (u0 : zAll v_isThere v_many v_captures v_sort v_value v_least v_most v_holder v_parts v_end v_firstPart v_partBegin v_partEnd v_size v_positions) (u1 : zNo v_isBound) (hq : ∀ (r : Int32) (ov_thrown : Int32) (ov_finding : Int32) (ov_boundMany : Int32) (ov_acts : Int32) (ov_labels : Int32) (ov_tasks : Int32) (ov_eaters : Int32) (ov_reached : Int64) (ov_reachesEnd : Bool) (ov_isBound : Nat → Bool) (ov_bounds : Nat → Int32) (ov_act : Nat → Int32) (ov_actA : Nat → Int32) (ov_actB : Nat → Int32) (ov_labelAt : Nat → Int32) (ov_task : Nat → Int32) (ov_taskA : Nat → Int32) (ov_taskB : Nat → Int32) (ov_held : Nat → Int32) (ov_follows : Nat → Int64) (ov_endsAfter : Nat → Bool) (ov_eaterOf : Nat → Int32) (ov_eaterNode : Nat → Int32) (ov_isGone : Nat → Bool) (ov_walk : Nat → Int32) (ov_states : Nat → Int32) (ov_stateSet : Nat → Int64) (ov_isTaken : Nat → Bool) (ov_classes : Nat → Int32) (ov_classTakes : Nat → Int64) (ov_classOf : Nat → Int32) (ov_leads : Nat → Int32), ov_thrown.toInt = 0 → ((r.toInt + 2 = 0 ∧ ov_boundMany.toInt = v_boundMany.toInt ∧ ov_acts.toInt = v_acts.toInt ∧ ov_labels.toInt = v_labels.toInt ∧ ov_tasks.toInt = v_tasks.toInt ∧ ov_eaters.toInt = v_eaters.toInt ∧ (bz ov_reachesEnd).toInt = (bz v_reachesEnd).toInt) ∨ (0 ≤ ov_boundMany.toInt ∧ ov_boundMany.toInt ≤ 3000)) → rp (fun k v => 0 ≤ v ∧ v ≤ 65535) ov_bounds 0 ov_boundMany.toInt → rp (fun k v => 0 ≤ v ∧ v ≤ 65535) ov_bounds ov_thrown.toInt ov_boundMany.toInt → (zNo ov_isBound) → Q r ov_thrown ov_finding ov_boundMany ov_acts ov_labels ov_tasks ov_eaters ov_reached ov_reachesEnd ov_isBound ov_bounds ov_act ov_actA ov_actB ov_labelAt ov_task ov_taskA ov_taskB ov_held ov_follows ov_endsAfter ov_eaterOf ov_eaterNode ov_isGone ov_walk ov_states ov_stateSet ov_isTaken ov_classes ov_classTakes ov_classOf ov_leads) : w_X12_table p1 v_finding v_boundMany v_acts v_labels v_tasks v_eaters v_reached v_reachesEnd v_isThere v_many v_sort v_value v_least v_most v_parts v_end v_size v_positions v_firstPart v_mayEmpty v_inCase v_partBegin v_partEnd v_isBound v_bounds v_act v_actA v_actB v_labelAt v_task v_taskA v_taskB v_held v_follows v_endsAfter v_eaterOf v_eaterNode v_isGone v_walk v_states v_stateSet v_isTaken v_classes v_classTakes v_classOf v_leads Q := by
  have q_t : (bz true).toInt = 1 := rfl
  have q_f : (bz false).toInt = 0 := rfl
  have q_m2 : ((-2) : Int32).toInt = (-2) := rfl
  have q_0 : (0 : Int32).toInt = 0 := rfl
  unfold w_X12_table
  refine ok_X12_wrongSlot  (fun r7 r7_0 f1 f2 f3 u7_0 => ?_)
  refine ⟨fun c10 => ?_, fun c10 => ?_⟩
  · have f4 : r7.toInt = 0 := i_eq (a := r7.toInt) (b := 0) rfl rfl c10
    have hSM := zAll_s u0 (u7_0 (by omega)) (by omega) (by omega)
    have hS := hSM.1
    have hM := hSM.2
    have f5 : 1 ≤ (zg v_many p1.toInt : Int) := (zS_n hS).1
    have f6 : (zg v_many p1.toInt : Int) ≤ 220 := (zS_n hS).2
    have f7 : 0 ≤ (zg v_captures p1.toInt : Int) := (zS_c hS).1
    have f8 : (zg v_captures p1.toInt : Int) ≤ 9 := (zS_c hS).2
    refine ok_X12_tabled (v_holder := v_holder) (v_captures := v_captures) (by omega) (by omega) (by omega) (by omega) (rp_mono b0 (by omega) (by omega)) (by exact hS) (by exact hM) (by exact u1) (fun r18 r18_0 r18_1 r18_2 r18_3 r18_4 r18_5 r18_6 r18_7 r18_8 r18_9 r18_10 r18_11 r18_12 r18_13 r18_14 r18_15 r18_16 r18_17 r18_18 r18_19 r18_20 r18_21 r18_22 r18_23 r18_24 r18_25 r18_26 r18_27 r18_28 r18_29 f9 f10 f11 f12 f13 h14 u18_0 u18_1 => ?_)
    have j_36 : ∀ (s0_36 : Int32), ((r18.toInt = 0) ∨ (s0_36.toInt = r18.toInt)) → (zNo r18_7) → w_X12_table_36 Q s0_36 0 r7_0 r18_0 r18_1 r18_2 r18_3 r18_4 r18_5 r18_6 r18_7 r18_8 r18_9 r18_10 r18_11 r18_12 r18_13 r18_14 r18_15 r18_16 r18_17 r18_18 r18_19 r18_20 r18_21 r18_22 r18_23 r18_24 r18_25 r18_26 r18_27 r18_28 r18_29 := by
      intro s0_36 f15 u36_0
      unfold w_X12_table_36
      exact hq s0_36 0 r7_0 r18_0 r18_1 r18_2 r18_3 r18_4 r18_5 r18_6 r18_7 r18_8 r18_9 r18_10 r18_11 r18_12 r18_13 r18_14 r18_15 r18_16 r18_17 r18_18 r18_19 r18_20 r18_21 r18_22 r18_23 r18_24 r18_25 r18_26 r18_27 r18_28 r18_29 (by omega) (by omega) (rp_mono h14 (by omega) (by omega)) (rp_mono h14 (by omega) (by omega)) (by exact u36_0)
    refine ⟨fun c23 => ?_, fun c23 => ?_⟩
    · have f16 : r18.toInt = 0 := i_eq (a := r18.toInt) (b := 0) rfl rfl c23
      intro x35 ex35
      exact j_36 x35 (by omega) (by exact u18_0)
    · have f17 : r18.toInt ≠ 0 := i_ne (a := r18.toInt) (b := 0) rfl rfl c23
      exact j_36 r18 (by omega) (by exact u18_0)
  · have f18 : r7.toInt ≠ 0 := i_ne (a := r7.toInt) (b := 0) rfl rfl c10
    exact hq (-2) 0 r7_0 v_boundMany v_acts v_labels v_tasks v_eaters v_reached v_reachesEnd v_isBound v_bounds v_act v_actA v_actB v_labelAt v_task v_taskA v_taskB v_held v_follows v_endsAfter v_eaterOf v_eaterNode v_isGone v_walk v_states v_stateSet v_isTaken v_classes v_classTakes v_classOf v_leads (by omega) (by omega) (rp_mono b0 (by omega) (by omega)) (rp_mono b0 (by omega) (by omega)) (by exact u1)
set_option maxHeartbeats 4000000 in
theorem ok_X12_least {p1 : Int32} {v_finding : Int32} {v_boundMany : Int32} {v_acts : Int32} {v_labels : Int32} {v_tasks : Int32} {v_eaters : Int32} {v_reached : Int64} {v_reachesEnd : Bool} {v_isThere : Nat → Bool} {v_many : Nat → Int32} {v_sort : Nat → Int32} {v_value : Nat → Int32} {v_least : Nat → Int32} {v_most : Nat → Int32} {v_parts : Nat → Int32} {v_end : Nat → Int32} {v_size : Nat → Int32} {v_positions : Nat → Int32} {v_firstPart : Nat → Int32} {v_mayEmpty : Nat → Bool} {v_inCase : Nat → Bool} {v_partBegin : Nat → Int32} {v_partEnd : Nat → Int32} {v_isBound : Nat → Bool} {v_bounds : Nat → Int32} {v_act : Nat → Int32} {v_actA : Nat → Int32} {v_actB : Nat → Int32} {v_labelAt : Nat → Int32} {v_task : Nat → Int32} {v_taskA : Nat → Int32} {v_taskB : Nat → Int32} {v_held : Nat → Int32} {v_follows : Nat → Int64} {v_endsAfter : Nat → Bool} {v_eaterOf : Nat → Int32} {v_eaterNode : Nat → Int32} {v_isGone : Nat → Bool} {v_walk : Nat → Int32} {v_states : Nat → Int32} {v_stateSet : Nat → Int64} {v_isTaken : Nat → Bool} {v_classes : Nat → Int32} {v_classTakes : Nat → Int64} {v_classOf : Nat → Int32} {v_leads : Nat → Int32} {v_group : Nat → Int32} {v_newGroup : Nat → Int32} {v_captures : Nat → Int32} {v_holder : Nat → Int32} {Q : Int32 → Int32 → Int32 → Int32 → Int32 → Int32 → Int32 → Int32 → Int64 → Bool → (Nat → Bool) → (Nat → Int32) → (Nat → Int32) → (Nat → Int32) → (Nat → Int32) → (Nat → Int32) → (Nat → Int32) → (Nat → Int32) → (Nat → Int32) → (Nat → Int32) → (Nat → Int64) → (Nat → Bool) → (Nat → Int32) → (Nat → Int32) → (Nat → Bool) → (Nat → Int32) → (Nat → Int32) → (Nat → Int64) → (Nat → Bool) → (Nat → Int32) → (Nat → Int64) → (Nat → Int32) → (Nat → Int32) → (Nat → Int32) → (Nat → Int32) → Prop} (a0 : 0 ≤ v_boundMany.toInt) (a1 : v_boundMany.toInt ≤ 3000) (b0 : rp (fun k v => 0 ≤ v ∧ v ≤ 65535) v_bounds 0 v_boundMany.toInt) (u0 : zAll v_isThere v_many v_captures v_sort v_value v_least v_most v_holder v_parts v_end v_firstPart v_partBegin v_partEnd v_size v_positions) (u1 : zNo v_isBound) (hq : ∀ (r : Int32) (ov_thrown : Int32) (ov_finding : Int32) (ov_boundMany : Int32) (ov_acts : Int32) (ov_labels : Int32) (ov_tasks : Int32) (ov_eaters : Int32) (ov_reached : Int64) (ov_reachesEnd : Bool) (ov_isBound : Nat → Bool) (ov_bounds : Nat → Int32) (ov_act : Nat → Int32) (ov_actA : Nat → Int32) (ov_actB : Nat → Int32) (ov_labelAt : Nat → Int32) (ov_task : Nat → Int32) (ov_taskA : Nat → Int32) (ov_taskB : Nat → Int32) (ov_held : Nat → Int32) (ov_follows : Nat → Int64) (ov_endsAfter : Nat → Bool) (ov_eaterOf : Nat → Int32) (ov_eaterNode : Nat → Int32) (ov_isGone : Nat → Bool) (ov_walk : Nat → Int32) (ov_states : Nat → Int32) (ov_stateSet : Nat → Int64) (ov_isTaken : Nat → Bool) (ov_classes : Nat → Int32) (ov_classTakes : Nat → Int64) (ov_classOf : Nat → Int32) (ov_leads : Nat → Int32) (ov_group : Nat → Int32) (ov_newGroup : Nat → Int32), ov_thrown.toInt = 0 → 0 ≤ r.toInt + 7 → r.toInt ≤ 60 → 0 ≤ ov_boundMany.toInt → ov_boundMany.toInt ≤ 3000 → rp (fun k v => 0 ≤ v ∧ v ≤ 65535) ov_bounds 0 ov_boundMany.toInt → rp (fun k v => 0 ≤ v ∧ v ≤ 65535) ov_bounds ov_thrown.toInt ov_boundMany.toInt → (zNo ov_isBound) → Q r ov_thrown ov_finding ov_boundMany ov_acts ov_labels ov_tasks ov_eaters ov_reached ov_reachesEnd ov_isBound ov_bounds ov_act ov_actA ov_actB ov_labelAt ov_task ov_taskA ov_taskB ov_held ov_follows ov_endsAfter ov_eaterOf ov_eaterNode ov_isGone ov_walk ov_states ov_stateSet ov_isTaken ov_classes ov_classTakes ov_classOf ov_leads ov_group ov_newGroup) : w_X12_least p1 v_finding v_boundMany v_acts v_labels v_tasks v_eaters v_reached v_reachesEnd v_isThere v_many v_sort v_value v_least v_most v_parts v_end v_size v_positions v_firstPart v_mayEmpty v_inCase v_partBegin v_partEnd v_isBound v_bounds v_act v_actA v_actB v_labelAt v_task v_taskA v_taskB v_held v_follows v_endsAfter v_eaterOf v_eaterNode v_isGone v_walk v_states v_stateSet v_isTaken v_classes v_classTakes v_classOf v_leads v_group v_newGroup Q := by
  have q_t : (bz true).toInt = 1 := rfl
  have q_f : (bz false).toInt = 0 := rfl
  have q_m2 : ((-2) : Int32).toInt = (-2) := rfl
  have q_0 : (0 : Int32).toInt = 0 := rfl
  have q_1 : (1 : Int32).toInt = 1 := rfl
  unfold w_X12_least
  refine ok_X12_wrongSlot  (fun r7 r7_0 f1 f2 f3 u7_0 => ?_)
  refine ⟨fun c10 => ?_, fun c10 => ?_⟩
  · have f4 : r7.toInt = 0 := i_eq (a := r7.toInt) (b := 0) rfl rfl c10
    have hSM := zAll_s u0 (u7_0 (by omega)) (by omega) (by omega)
    have hS := hSM.1
    have hM := hSM.2
    have f5 : 1 ≤ (zg v_many p1.toInt : Int) := (zS_n hS).1
    have f6 : (zg v_many p1.toInt : Int) ≤ 220 := (zS_n hS).2
    have f7 : 0 ≤ (zg v_captures p1.toInt : Int) := (zS_c hS).1
    have f8 : (zg v_captures p1.toInt : Int) ≤ 9 := (zS_c hS).2
    refine ok_X12_tabled (v_holder := v_holder) (v_captures := v_captures) (by omega) (by omega) (by omega) (by omega) (rp_mono b0 (by omega) (by omega)) (by exact hS) (by exact hM) (by exact u1) (fun r18 r18_0 r18_1 r18_2 r18_3 r18_4 r18_5 r18_6 r18_7 r18_8 r18_9 r18_10 r18_11 r18_12 r18_13 r18_14 r18_15 r18_16 r18_17 r18_18 r18_19 r18_20 r18_21 r18_22 r18_23 r18_24 r18_25 r18_26 r18_27 r18_28 r18_29 f9 f10 f11 f12 f13 h14 u18_0 u18_1 => ?_)
    refine ⟨fun c23 => ?_, fun c23 => ?_⟩
    · have f15 : r18.toInt = 0 := i_eq (a := r18.toInt) (b := 0) rfl rfl c23
      obtain ⟨hT9, hb9, hz9⟩ := u18_1 (by omega)
      have f16 : 1 ≤ (zg r18_23 0 : Int) := hT9.1.1
      have f17 : (zg r18_23 0 : Int) ≤ 60 := hT9.1.2
      have j_36 : ∀ n_36 : Nat, ∀ (l5_36 : Int32) (v_group_36 : Nat → Int32), 0 ≤ l5_36.toInt → l5_36.toInt ≤ 60 → ((-1) * l5_36.toInt + 2147483648).toNat < n_36 → w_X12_least_36 Q 0 1 0 r7_0 r18_0 r18_1 r18_2 r18_3 r18_4 r18_5 r18_6 r18_7 r18_8 r18_9 r18_10 r18_11 r18_12 r18_13 r18_14 r18_15 r18_16 r18_17 r18_18 r18_19 r18_20 r18_21 r18_22 r18_23 r18_24 r18_25 r18_26 r18_27 r18_28 r18_29 v_newGroup n_36 l5_36 v_group_36 := by
        intro n_36
        induction n_36 with
        | zero =>
          intro l5_36 v_group_36 f18 f19 hm_36
          exfalso; omega
        | succ n_36 ih_36 =>
          intro l5_36 v_group_36 f18 f19 hm_36
          unfold w_X12_least_36
          unfold w_X12_least_36B
          intro x43 ex43
          have f20 : x43.toInt = (zg r18_23 0 : Int) := zg_at2 (k := 0) ex43 rfl
          have j_75 : ∀ n_75 : Nat, ∀ (l3_75 : Int32) (l4_75 : Int32) (v_group_75 : Nat → Int32) (v_newGroup_75 : Nat → Int32), 0 ≤ l3_75.toInt → l3_75.toInt ≤ l4_75.toInt → 1 ≤ l4_75.toInt → l4_75.toInt ≤ 60 → (l4_75.toInt ≤ zdv v_group_75 (zg r18_23 0).toNat) → ((-1) * l3_75.toInt + 2147483648).toNat < n_75 → w_X12_least_75 Q 0 r7_0 r18_0 r18_1 r18_2 r18_3 r18_4 r18_5 r18_6 r18_7 r18_8 r18_9 r18_10 r18_11 r18_12 r18_13 r18_14 r18_15 r18_16 r18_17 r18_18 r18_19 r18_20 r18_21 r18_22 r18_23 r18_24 r18_25 r18_26 r18_27 r18_28 r18_29 n_75 l3_75 l4_75 v_group_75 v_newGroup_75 := by
            intro n_75
            induction n_75 with
            | zero =>
              intro l3_75 l4_75 v_group_75 v_newGroup_75 f21 f22 f23 f24 u75_0 hm_75
              exfalso; omega
            | succ n_75 ih_75 =>
              intro l3_75 l4_75 v_group_75 v_newGroup_75 f21 f22 f23 f24 u75_0 hm_75
              unfold w_X12_least_75
              unfold w_X12_least_75B
              refine ⟨fun c78 => ?_, fun c78 => ?_⟩
              · have f25 : l3_75.toInt = l4_75.toInt := i_eq (a := l3_75.toInt) (b := l4_75.toInt) rfl rfl c78
                exact hq l4_75 0 r7_0 r18_0 r18_1 r18_2 r18_3 r18_4 r18_5 r18_6 r18_7 r18_8 r18_9 r18_10 r18_11 r18_12 r18_13 r18_14 r18_15 r18_16 r18_17 r18_18 r18_19 r18_20 r18_21 r18_22 r18_23 r18_24 r18_25 r18_26 r18_27 r18_28 r18_29 v_group_75 v_newGroup_75 (by omega) (by omega) (by omega) (by omega) (by omega) (rp_mono h14 (by omega) (by omega)) (rp_mono h14 (by omega) (by omega)) (by exact u18_0)
              · have f26 : l3_75.toInt ≠ l4_75.toInt := i_ne (a := l3_75.toInt) (b := l4_75.toInt) rfl rfl c78
                have j_90 : ∀ n_90 : Nat, ∀ (l4_90 : Int32) (l5_90 : Int32) (v_newGroup_90 : Nat → Int32), 0 ≤ l4_90.toInt → l4_90.toInt ≤ l5_90.toInt → l5_90.toInt ≤ (zg r18_23 0 : Int) → (zGr v_group_75 v_newGroup_90 l5_90.toInt l4_90.toInt) → ((-1) * l5_90.toInt + 2147483648).toNat < n_90 → w_X12_least_90 r18_23 r18_26 r18_29 Q (w_X12_least_75 Q 0 r7_0 r18_0 r18_1 r18_2 r18_3 r18_4 r18_5 r18_6 r18_7 r18_8 r18_9 r18_10 r18_11 r18_12 r18_13 r18_14 r18_15 r18_16 r18_17 r18_18 r18_19 r18_20 r18_21 r18_22 r18_23 r18_24 r18_25 r18_26 r18_27 r18_28 r18_29 n_75) l4_75 v_group_75 n_90 l4_90 l5_90 v_newGroup_90 := by
                  intro n_90
                  induction n_90 with
                  | zero =>
                    intro l4_90 l5_90 v_newGroup_90 f27 f28 f29 u90_0 hm_90
                    exfalso; omega
                  | succ n_90 ih_90 =>
                    intro l4_90 l5_90 v_newGroup_90 f27 f28 f29 u90_0 hm_90
                    unfold w_X12_least_90
                    unfold w_X12_least_90B
                    intro x97 ex97
                    have f30 : x97.toInt = x43.toInt := congrArg Int32.toInt (ex97.trans ex43.symm)
                    have f31 : x97.toInt = (zg r18_23 0 : Int) := zg_at2 (k := 0) ex97 rfl
                    refine ⟨fun c98 => ?_, fun c98 => ?_⟩
                    · have f32 : x97.toInt ≤ l5_90.toInt := i_le (a := x97.toInt) (b := l5_90.toInt) rfl rfl c98
                      have f33 : l4_75.toInt ≤ l4_90.toInt := zGr_le (n := zg r18_23 0) u90_0 u75_0 (by omega)
                      have j_180 : ∀ n_180 : Nat, ∀ (l5_180 : Int32) (v_group_180 : Nat → Int32), 0 ≤ l5_180.toInt → l5_180.toInt ≤ 60 → (zEqr v_group_180 v_newGroup_90 l5_180.toInt) → ((-1) * l5_180.toInt + 2147483648).toNat < n_180 → w_X12_least_180 r18_23 Q (w_X12_least_75 Q 0 r7_0 r18_0 r18_1 r18_2 r18_3 r18_4 r18_5 r18_6 r18_7 r18_8 r18_9 r18_10 r18_11 r18_12 r18_13 r18_14 r18_15 r18_16 r18_17 r18_18 r18_19 r18_20 r18_21 r18_22 r18_23 r18_24 r18_25 r18_26 r18_27 r18_28 r18_29 n_75) l4_75 l4_90 v_newGroup_90 n_180 l5_180 v_group_180 := by
                        intro n_180
                        induction n_180 with
                        | zero =>
                          intro l5_180 v_group_180 f34 f35 u180_0 hm_180
                          exfalso; omega
                        | succ n_180 ih_180 =>
                          intro l5_180 v_group_180 f34 f35 u180_0 hm_180
                          unfold w_X12_least_180
                          unfold w_X12_least_180B
                          intro x187 ex187
                          have f36 : x187.toInt = x43.toInt := congrArg Int32.toInt (ex187.trans ex43.symm)
                          have f37 : x187.toInt = (zg r18_23 0 : Int) := zg_at2 (k := 0) ex187 rfl
                          refine ⟨fun c188 => ?_, fun c188 => ?_⟩
                          · have f38 : x187.toInt ≤ l5_180.toInt := i_le (a := x187.toInt) (b := l5_180.toInt) rfl rfl c188
                            exact ih_75 l4_75 l4_90 v_group_180 v_newGroup_90  (by omega) (by omega) (by omega) (by omega) (by first | exact zGr_e (n := zg r18_23 0) u90_0 u180_0 (by omega) (by omega) | (have h9 := zdv_1 (g := v_group_180) (n := zg r18_23 0) (by omega); have e1 : (1 : Int32).toInt = 1 := rfl; omega)) (by have h8_0 := i_rng l3_75; have h8_1 := i_rng l4_75; omega)
                          · have f39 : l5_180.toInt < x187.toInt := i_nle (a := x187.toInt) (b := l5_180.toInt) rfl rfl c188
                            refine ⟨i_in (by omega) (by omega), ?_⟩
                            intro x203 ex203
                            refine ⟨i_in (by omega) (by omega), ?_⟩
                            intro g204 eg204
                            intro x205 ex205
                            have f40 : x205.toInt = l5_180.toInt + 1 := i_add (a := l5_180.toInt) (b := 1) ex205 rfl rfl (by omega) (by omega)
                            exact ih_180 x205 g204  (by omega) (by omega) (by first | exact zEqr_0 (by decide) | exact zEqr_s u180_0 eg204 ex203 (by omega) (by omega)) (by have h8_0 := i_rng l5_180; have h8_1 := i_rng x205; omega)
                      exact ⟨(2147483648 : Int).toNat + 1, j_180   ((2147483648 : Int).toNat + 1) 0 v_group_75  (by omega) (by omega) (by first | exact zEqr_0 (by decide) | exact zEqr_s u180_0 eg204 ex203 (by omega) (by omega)) (by omega)⟩
                    · have f41 : l5_90.toInt < x97.toInt := i_nle (a := x97.toInt) (b := l5_90.toInt) rfl rfl c98
                      have j_104 : ∀ n_104 : Nat, ∀ (l6_104 : Int32), 0 ≤ l6_104.toInt → l6_104.toInt ≤ l5_90.toInt → ((-1) * l6_104.toInt + 2147483648).toNat < n_104 → w_X12_least_104 r18_26 r18_29 v_group_75 Q (w_X12_least_75 Q 0 r7_0 r18_0 r18_1 r18_2 r18_3 r18_4 r18_5 r18_6 r18_7 r18_8 r18_9 r18_10 r18_11 r18_12 r18_13 r18_14 r18_15 r18_16 r18_17 r18_18 r18_19 r18_20 r18_21 r18_22 r18_23 r18_24 r18_25 r18_26 r18_27 r18_28 r18_29 n_75) (w_X12_least_90 r18_23 r18_26 r18_29 Q (w_X12_least_75 Q 0 r7_0 r18_0 r18_1 r18_2 r18_3 r18_4 r18_5 r18_6 r18_7 r18_8 r18_9 r18_10 r18_11 r18_12 r18_13 r18_14 r18_15 r18_16 r18_17 r18_18 r18_19 r18_20 r18_21 r18_22 r18_23 r18_24 r18_25 r18_26 r18_27 r18_28 r18_29 n_75) l4_75 v_group_75 n_90) l4_90 l5_90 v_newGroup_90 n_104 l6_104 := by
                        intro n_104
                        induction n_104 with
                        | zero =>
                          intro l6_104 f42 f43 hm_104
                          exfalso; omega
                        | succ n_104 ih_104 =>
                          intro l6_104 f42 f43 hm_104
                          unfold w_X12_least_104
                          unfold w_X12_least_104B
                          have j_128 : ((l5_90.toInt ≤ l6_104.toInt) ∨ (l6_104.toInt + 1 ≤ l5_90.toInt)) → (l6_104.toInt < l5_90.toInt → zg v_group_75 l6_104.toInt = zg v_group_75 l5_90.toInt) → w_X12_least_128 Q (w_X12_least_75 Q 0 r7_0 r18_0 r18_1 r18_2 r18_3 r18_4 r18_5 r18_6 r18_7 r18_8 r18_9 r18_10 r18_11 r18_12 r18_13 r18_14 r18_15 r18_16 r18_17 r18_18 r18_19 r18_20 r18_21 r18_22 r18_23 r18_24 r18_25 r18_26 r18_27 r18_28 r18_29 n_75) (w_X12_least_90 r18_23 r18_26 r18_29 Q (w_X12_least_75 Q 0 r7_0 r18_0 r18_1 r18_2 r18_3 r18_4 r18_5 r18_6 r18_7 r18_8 r18_9 r18_10 r18_11 r18_12 r18_13 r18_14 r18_15 r18_16 r18_17 r18_18 r18_19 r18_20 r18_21 r18_22 r18_23 r18_24 r18_25 r18_26 r18_27 r18_28 r18_29 n_75) l4_75 v_group_75 n_90) l4_90 l5_90 l6_104 v_newGroup_90 := by
                            intro f44 u128_0
                            unfold w_X12_least_128
                            have j_153 : ∀ (s0_153 : Int32), ((l6_104.toInt = l5_90.toInt ∧ s0_153.toInt = l4_90.toInt) ∨ (l6_104.toInt < l5_90.toInt ∧ s0_153 = v_newGroup_90 l6_104.toNatClampNeg)) → w_X12_least_153 Q (w_X12_least_75 Q 0 r7_0 r18_0 r18_1 r18_2 r18_3 r18_4 r18_5 r18_6 r18_7 r18_8 r18_9 r18_10 r18_11 r18_12 r18_13 r18_14 r18_15 r18_16 r18_17 r18_18 r18_19 r18_20 r18_21 r18_22 r18_23 r18_24 r18_25 r18_26 r18_27 r18_28 r18_29 n_75) (w_X12_least_90 r18_23 r18_26 r18_29 Q (w_X12_least_75 Q 0 r7_0 r18_0 r18_1 r18_2 r18_3 r18_4 r18_5 r18_6 r18_7 r18_8 r18_9 r18_10 r18_11 r18_12 r18_13 r18_14 r18_15 r18_16 r18_17 r18_18 r18_19 r18_20 r18_21 r18_22 r18_23 r18_24 r18_25 r18_26 r18_27 r18_28 r18_29 n_75) l4_75 v_group_75 n_90) s0_153 l5_90 l4_90 l5_90 l6_104 v_newGroup_90 := by
                              intro s0_153 u153_0
                              unfold w_X12_least_153
                              refine ⟨i_in (by omega) (by omega), ?_⟩
                              intro g153 eg153
                              have j_168 : ∀ (s0_168 : Int32), ((s0_168.toInt = 0) ∨ (s0_168.toInt = 1 ∧ l6_104.toInt = l5_90.toInt)) → ((l6_104.toInt = l5_90.toInt ∧ s0_168.toInt = 1) ∨ (l6_104.toInt < l5_90.toInt ∧ s0_168.toInt = 0)) → w_X12_least_168 Q (w_X12_least_75 Q 0 r7_0 r18_0 r18_1 r18_2 r18_3 r18_4 r18_5 r18_6 r18_7 r18_8 r18_9 r18_10 r18_11 r18_12 r18_13 r18_14 r18_15 r18_16 r18_17 r18_18 r18_19 r18_20 r18_21 r18_22 r18_23 r18_24 r18_25 r18_26 r18_27 r18_28 r18_29 n_75) (w_X12_least_90 r18_23 r18_26 r18_29 Q (w_X12_least_75 Q 0 r7_0 r18_0 r18_1 r18_2 r18_3 r18_4 r18_5 r18_6 r18_7 r18_8 r18_9 r18_10 r18_11 r18_12 r18_13 r18_14 r18_15 r18_16 r18_17 r18_18 r18_19 r18_20 r18_21 r18_22 r18_23 r18_24 r18_25 r18_26 r18_27 r18_28 r18_29 n_75) l4_75 v_group_75 n_90) s0_168 l4_90 l5_90 g153 := by
                                intro s0_168 f45 u168_0
                                unfold w_X12_least_168
                                intro x168 ex168
                                have f46 : x168.toInt = l4_90.toInt + s0_168.toInt := i_add (a := l4_90.toInt) (b := s0_168.toInt) ex168 rfl rfl (by omega) (by omega)
                                intro x171 ex171
                                have f47 : x171.toInt = l5_90.toInt + 1 := i_add (a := l5_90.toInt) (b := 1) ex171 rfl rfl (by omega) (by omega)
                                exact ih_90 x168 x171 g153  (by omega) (by omega) (by omega) (by first | exact zGr_0 rfl rfl | exact zGr_j u90_0 eg153 u153_0 u168_0 u128_0 (by omega) (by omega) (by omega) (by omega)) (by have h8_0 := i_rng l5_90; have h8_1 := i_rng x171; omega)
                              refine ⟨fun c160 => ?_, fun c160 => ?_⟩
                              · have f48 : l6_104.toInt ≠ l5_90.toInt := i_ne (a := l6_104.toInt) (b := l5_90.toInt) rfl rfl c160
                                exact j_168 0 (by omega) (by first | exact Or.inl ⟨by omega, rfl⟩ | exact Or.inr ⟨by omega, rfl⟩)
                              · have f49 : l6_104.toInt = l5_90.toInt := i_eq (a := l6_104.toInt) (b := l5_90.toInt) rfl rfl c160
                                exact j_168 1 (by omega) (by first | exact Or.inl ⟨by omega, rfl⟩ | exact Or.inr ⟨by omega, rfl⟩)
                            refine ⟨fun c138 => ?_, fun c138 => ?_⟩
                            · have f50 : l6_104.toInt ≠ l5_90.toInt := i_ne (a := l6_104.toInt) (b := l5_90.toInt) rfl rfl c138
                              refine ⟨i_in (by omega) (by omega), ?_⟩
                              intro x152 ex152
                              exact j_153 x152 (by first | exact Or.inl ⟨by omega, rfl⟩ | exact Or.inr ⟨by omega, ex152⟩)
                            · have f51 : l6_104.toInt = l5_90.toInt := i_eq (a := l6_104.toInt) (b := l5_90.toInt) rfl rfl c138
                              exact j_153 l4_90 (by first | exact Or.inl ⟨by omega, rfl⟩ | exact Or.inr ⟨by omega, ex152⟩)
                          refine ⟨fun c108 => ?_, fun c108 => ?_⟩
                          · have f52 : l5_90.toInt ≤ l6_104.toInt := i_le (a := l5_90.toInt) (b := l6_104.toInt) rfl rfl c108
                            exact j_128  (by omega) (by first | exact fun z => absurd z (by omega) | exact fun _ => u116_0 (by omega))
                          · have f53 : l6_104.toInt < l5_90.toInt := i_nle (a := l5_90.toInt) (b := l6_104.toInt) rfl rfl c108
                            refine ok_X12_isAlike (v_states := r18_23) (v_classOf := r18_28) (gbm9 := r18_0.toInt) (by omega) (by omega) (by exact hT9) (by omega) (by omega) (fun r116 f54 f55 f56 f57 f58 f59 f60 f61 f62 u116_0 => ?_)
                            refine ⟨fun c119 => ?_, fun c119 => ?_⟩
                            · have f63 : r116.toInt ≠ 0 := i_ne (a := r116.toInt) (b := 0) rfl rfl c119
                              exact j_128  (by omega) (by first | exact fun z => absurd z (by omega) | exact fun _ => u116_0 (by omega))
                            · have f64 : r116.toInt = 0 := i_eq (a := r116.toInt) (b := 0) rfl rfl c119
                              intro x122 ex122
                              have f65 : x122.toInt = l6_104.toInt + 1 := i_add (a := l6_104.toInt) (b := 1) ex122 rfl rfl (by omega) (by omega)
                              exact ih_104 x122  (by omega) (by omega) (by have h8_0 := i_rng l6_104; have h8_1 := i_rng x122; omega)
                      exact ⟨(2147483648 : Int).toNat + 1, j_104   ((2147483648 : Int).toNat + 1) 0  (by omega) (by omega) (by omega)⟩
                exact ⟨(2147483648 : Int).toNat + 1, j_90   ((2147483648 : Int).toNat + 1) 0 0 v_newGroup_75  (by omega) (by omega) (by omega) (by first | exact zGr_0 rfl rfl | exact zGr_j u90_0 eg153 u153_0 u168_0 u128_0 (by omega) (by omega) (by omega) (by omega)) (by omega)⟩
          refine ⟨fun c44 => ?_, fun c44 => ?_⟩
          · have f66 : x43.toInt ≤ l5_36.toInt := i_le (a := x43.toInt) (b := l5_36.toInt) rfl rfl c44
            exact ⟨(2147483648 : Int).toNat + 1, j_75   ((2147483648 : Int).toNat + 1) 0 1 v_group_36 v_newGroup  (by omega) (by omega) (by omega) (by omega) (by first | exact zGr_e (n := zg r18_23 0) u90_0 u180_0 (by omega) (by omega) | (have h9 := zdv_1 (g := v_group_36) (n := zg r18_23 0) (by omega); have e1 : (1 : Int32).toInt = 1 := rfl; omega)) (by omega)⟩
          · have f67 : l5_36.toInt < x43.toInt := i_nle (a := x43.toInt) (b := l5_36.toInt) rfl rfl c44
            refine ⟨i_in (by omega) (by omega), ?_⟩
            intro x59 ex59
            have f68 : (0 ≤ x59.toInt ∧ x59.toInt ≤ 1) := i_bz ex59
            have j_68 : ∀ (s0_68 : Int32), ((s0_68.toInt = 0 ∧ x59.toInt = 0) ∨ (s0_68.toInt = 1)) → (True) → w_X12_least_68 Q (w_X12_least_36 Q 0 1 0 r7_0 r18_0 r18_1 r18_2 r18_3 r18_4 r18_5 r18_6 r18_7 r18_8 r18_9 r18_10 r18_11 r18_12 r18_13 r18_14 r18_15 r18_16 r18_17 r18_18 r18_19 r18_20 r18_21 r18_22 r18_23 r18_24 r18_25 r18_26 r18_27 r18_28 r18_29 v_newGroup n_36) s0_68 l5_36 l5_36 v_group_36 := by
              intro s0_68 f69 u68_0
              unfold w_X12_least_68
              refine ⟨i_in (by omega) (by omega), ?_⟩
              intro g68 eg68
              intro x69 ex69
              have f70 : x69.toInt = l5_36.toInt + 1 := i_add (a := l5_36.toInt) (b := 1) ex69 rfl rfl (by omega) (by omega)
              exact ih_36 x69 g68  (by omega) (by omega) (by have h8_0 := i_rng l5_36; have h8_1 := i_rng x69; omega)
            refine ⟨fun c60 => ?_, fun c60 => ?_⟩
            · have f71 : x59.toInt = 0 := i_eq (a := x59.toInt) (b := 0) rfl rfl c60
              exact j_68 0 (by omega) (by trivial)
            · have f72 : x59.toInt ≠ 0 := i_ne (a := x59.toInt) (b := 0) rfl rfl c60
              exact j_68 1 (by omega) (by trivial)
      exact ⟨(2147483648 : Int).toNat + 1, j_36   ((2147483648 : Int).toNat + 1) 0 v_group  (by omega) (by omega) (by omega)⟩
    · have f73 : r18.toInt ≠ 0 := i_ne (a := r18.toInt) (b := 0) rfl rfl c23
      exact hq r18 0 r7_0 r18_0 r18_1 r18_2 r18_3 r18_4 r18_5 r18_6 r18_7 r18_8 r18_9 r18_10 r18_11 r18_12 r18_13 r18_14 r18_15 r18_16 r18_17 r18_18 r18_19 r18_20 r18_21 r18_22 r18_23 r18_24 r18_25 r18_26 r18_27 r18_28 r18_29 v_group v_newGroup (by omega) (by omega) (by omega) (by omega) (by omega) (rp_mono h14 (by omega) (by omega)) (rp_mono h14 (by omega) (by omega)) (by exact u18_0)
  · have f74 : r7.toInt ≠ 0 := i_ne (a := r7.toInt) (b := 0) rfl rfl c10
    exact hq (-2) 0 r7_0 v_boundMany v_acts v_labels v_tasks v_eaters v_reached v_reachesEnd v_isBound v_bounds v_act v_actA v_actB v_labelAt v_task v_taskA v_taskB v_held v_follows v_endsAfter v_eaterOf v_eaterNode v_isGone v_walk v_states v_stateSet v_isTaken v_classes v_classTakes v_classOf v_leads v_group v_newGroup (by omega) (by omega) (by omega) (by omega) (by omega) (rp_mono b0 (by omega) (by omega)) (rp_mono b0 (by omega) (by omega)) (by exact u1)
set_option maxHeartbeats 4000000 in
theorem ok_X12_prefix {p1 : Int32} {p2 : Int32} {p3 : Int32} {v_finding : Int32} {v_boundMany : Int32} {v_acts : Int32} {v_labels : Int32} {v_tasks : Int32} {v_eaters : Int32} {v_reached : Int64} {v_reachesEnd : Bool} {v_isThere : Nat → Bool} {v_many : Nat → Int32} {v_sort : Nat → Int32} {v_value : Nat → Int32} {v_least : Nat → Int32} {v_most : Nat → Int32} {v_parts : Nat → Int32} {v_end : Nat → Int32} {v_size : Nat → Int32} {v_positions : Nat → Int32} {v_firstPart : Nat → Int32} {v_mayEmpty : Nat → Bool} {v_inCase : Nat → Bool} {v_partBegin : Nat → Int32} {v_partEnd : Nat → Int32} {v_isBound : Nat → Bool} {v_bounds : Nat → Int32} {v_isSubject : Nat → Bool} {v_long0 : Nat → Int32} {v_signs : Nat → Int32} {v_act : Nat → Int32} {v_actA : Nat → Int32} {v_actB : Nat → Int32} {v_labelAt : Nat → Int32} {v_task : Nat → Int32} {v_taskA : Nat → Int32} {v_taskB : Nat → Int32} {v_held : Nat → Int32} {v_follows : Nat → Int64} {v_endsAfter : Nat → Bool} {v_eaterOf : Nat → Int32} {v_eaterNode : Nat → Int32} {v_isGone : Nat → Bool} {v_walk : Nat → Int32} {v_states : Nat → Int32} {v_stateSet : Nat → Int64} {v_isTaken : Nat → Bool} {v_isLive : Nat → Bool} {v_classes : Nat → Int32} {v_classTakes : Nat → Int64} {v_classOf : Nat → Int32} {v_leads : Nat → Int32} {v_captures : Nat → Int32} {v_holder : Nat → Int32} {Q : Int32 → Int32 → Int32 → Int32 → Int32 → Int32 → Int32 → Int32 → Int64 → Bool → (Nat → Bool) → (Nat → Int32) → (Nat → Int32) → (Nat → Int32) → (Nat → Int32) → (Nat → Int32) → (Nat → Int32) → (Nat → Int32) → (Nat → Int32) → (Nat → Int32) → (Nat → Int64) → (Nat → Bool) → (Nat → Int32) → (Nat → Int32) → (Nat → Bool) → (Nat → Int32) → (Nat → Int32) → (Nat → Int64) → (Nat → Bool) → (Nat → Bool) → (Nat → Int32) → (Nat → Int64) → (Nat → Int32) → (Nat → Int32) → Prop} (a0 : 0 ≤ v_boundMany.toInt) (a1 : v_boundMany.toInt ≤ 3000) (b0 : rp (fun k v => 0 ≤ v ∧ v ≤ 100) v_long0 0 4) (b1 : rp (fun k v => 0 ≤ v ∧ v ≤ 65535) v_signs 0 400) (b2 : rp (fun k v => 0 ≤ v ∧ v ≤ 65535) v_bounds 0 v_boundMany.toInt) (u0 : zAll v_isThere v_many v_captures v_sort v_value v_least v_most v_holder v_parts v_end v_firstPart v_partBegin v_partEnd v_size v_positions) (u1 : zNo v_isBound) (hq : ∀ (r : Int32) (ov_thrown : Int32) (ov_finding : Int32) (ov_boundMany : Int32) (ov_acts : Int32) (ov_labels : Int32) (ov_tasks : Int32) (ov_eaters : Int32) (ov_reached : Int64) (ov_reachesEnd : Bool) (ov_isBound : Nat → Bool) (ov_bounds : Nat → Int32) (ov_act : Nat → Int32) (ov_actA : Nat → Int32) (ov_actB : Nat → Int32) (ov_labelAt : Nat → Int32) (ov_task : Nat → Int32) (ov_taskA : Nat → Int32) (ov_taskB : Nat → Int32) (ov_held : Nat → Int32) (ov_follows : Nat → Int64) (ov_endsAfter : Nat → Bool) (ov_eaterOf : Nat → Int32) (ov_eaterNode : Nat → Int32) (ov_isGone : Nat → Bool) (ov_walk : Nat → Int32) (ov_states : Nat → Int32) (ov_stateSet : Nat → Int64) (ov_isTaken : Nat → Bool) (ov_isLive : Nat → Bool) (ov_classes : Nat → Int32) (ov_classTakes : Nat → Int64) (ov_classOf : Nat → Int32) (ov_leads : Nat → Int32), ov_thrown.toInt = 0 → r.toInt ≤ 100 → 0 ≤ ov_boundMany.toInt → ov_boundMany.toInt ≤ 3000 → rp (fun k v => 0 ≤ v ∧ v ≤ 65535) ov_bounds 0 ov_boundMany.toInt → rp (fun k v => 0 ≤ v ∧ v ≤ 65535) ov_bounds ov_thrown.toInt ov_boundMany.toInt → (zNo ov_isBound) → Q r ov_thrown ov_finding ov_boundMany ov_acts ov_labels ov_tasks ov_eaters ov_reached ov_reachesEnd ov_isBound ov_bounds ov_act ov_actA ov_actB ov_labelAt ov_task ov_taskA ov_taskB ov_held ov_follows ov_endsAfter ov_eaterOf ov_eaterNode ov_isGone ov_walk ov_states ov_stateSet ov_isTaken ov_isLive ov_classes ov_classTakes ov_classOf ov_leads) : w_X12_prefix p1 p2 p3 v_finding v_boundMany v_acts v_labels v_tasks v_eaters v_reached v_reachesEnd v_isThere v_many v_sort v_value v_least v_most v_parts v_end v_size v_positions v_firstPart v_mayEmpty v_inCase v_partBegin v_partEnd v_isBound v_bounds v_isSubject v_long0 v_signs v_act v_actA v_actB v_labelAt v_task v_taskA v_taskB v_held v_follows v_endsAfter v_eaterOf v_eaterNode v_isGone v_walk v_states v_stateSet v_isTaken v_isLive v_classes v_classTakes v_classOf v_leads Q := by
  have q_t : (bz true).toInt = 1 := rfl
  have q_f : (bz false).toInt = 0 := rfl
  have q_m4 : ((-4) : Int32).toInt = (-4) := rfl
  have q_m1 : ((-1) : Int32).toInt = (-1) := rfl
  have q_0 : (0 : Int32).toInt = 0 := rfl
  unfold w_X12_prefix
  refine ok_X12_wrongBoth  (fun r8 r8_0 f1 f2 f3 f4 f5 u8_0 => ?_)
  refine ⟨fun c15 => ?_, fun c15 => ?_⟩
  · have f6 : r8.toInt = 0 := i_eq (a := r8.toInt) (b := 0) rfl rfl c15
    have hSM := zAll_s u0 (u8_0 (by omega)) (by omega) (by omega)
    have hS := hSM.1
    have hM := hSM.2
    have f7 : 1 ≤ (zg v_many p1.toInt : Int) := (zS_n hS).1
    have f8 : (zg v_many p1.toInt : Int) ≤ 220 := (zS_n hS).2
    have f9 : 0 ≤ (zg v_captures p1.toInt : Int) := (zS_c hS).1
    have f10 : (zg v_captures p1.toInt : Int) ≤ 9 := (zS_c hS).2
    refine ⟨i_in (by omega) (by omega), ?_⟩
    intro x28 ex28
    have f11 : 0 ≤ x28.toInt ∧ x28.toInt ≤ 100 := by have h9 := rp_get (P := (fun k v => 0 ≤ v ∧ v ≤ 100)) (a := p2.toInt) b0 ex28 rfl (by omega) (by omega) (by omega); omega
    refine ok_X12_in  (fun r29 f12 f13 f14 f15 f16 f17 => ?_)
    refine ⟨fun c32 => ?_, fun c32 => ?_⟩
    · have f18 : r29.toInt ≠ 0 := i_ne (a := r29.toInt) (b := 0) rfl rfl c32
      refine ok_X12_tabled (v_holder := v_holder) (v_captures := v_captures) (by omega) (by omega) (by omega) (by omega) (rp_mono b2 (by omega) (by omega)) (by exact hS) (by exact hM) (by exact u1) (fun r40 r40_0 r40_1 r40_2 r40_3 r40_4 r40_5 r40_6 r40_7 r40_8 r40_9 r40_10 r40_11 r40_12 r40_13 r40_14 r40_15 r40_16 r40_17 r40_18 r40_19 r40_20 r40_21 r40_22 r40_23 r40_24 r40_25 r40_26 r40_27 r40_28 r40_29 f19 f20 f21 f22 f23 h24 u40_0 u40_1 => ?_)
      refine ⟨fun c47 => ?_, fun c47 => ?_⟩
      · have f25 : r40.toInt = 0 := i_eq (a := r40.toInt) (b := 0) rfl rfl c47
        obtain ⟨hT9, hb9, hz9⟩ := u40_1 (by omega)
        have f26 : 1 ≤ r40_0.toInt := hb9.1
        have f27 : r40_0.toInt ≤ 260 := hb9.2
        have f28 : 0 ≤ p2.toInt := by omega
        have f29 : p2.toInt ≤ 3 := by omega
        have f30 : 0 ≤ p3.toInt := by omega
        have f31 : p3.toInt ≤ 100 := by omega
        have hs9 := hT9.1
        have hc9 := hT9.2.1
        refine ok_X12_findLive (v_classOf := r40_28) (gbm9 := r40_0.toInt) (by exact hT9) (fun r54_0 => ?_)
        intro x62 ex62
        have f32 : (0 ≤ x62.toInt ∧ x62.toInt ≤ 1) := i_bz ex62
        refine ⟨fun c63 => ?_, fun c63 => ?_⟩
        · have f33 : x62.toInt ≠ 0 := i_ne (a := x62.toInt) (b := 0) rfl rfl c63
          have j_74 : ∀ n_74 : Nat, ∀ (l5_74 : Int32) (l6_74 : Int32), 0 ≤ l5_74.toInt → l5_74.toInt ≤ 59 → 0 ≤ l6_74.toInt → (l5_74.toInt < zg r40_23 0) → ((-1) * l6_74.toInt + 100).toNat < n_74 → w_X12_prefix_74 p2 p3 v_long0 v_signs Q 0 r8_0 r40_0 r40_1 r40_2 r40_3 r40_4 r40_5 r40_6 r40_7 r40_8 r40_9 r40_10 r40_11 r40_12 r40_13 r40_14 r40_15 r40_16 r40_17 r40_18 r40_19 r40_20 r40_21 r40_22 r40_23 r40_24 r40_25 r54_0 r40_26 r40_27 r40_28 r40_29 n_74 l5_74 l6_74 := by
            intro n_74
            induction n_74 with
            | zero =>
              intro l5_74 l6_74 f34 f35 f36 u74_0 hm_74
              exfalso; omega
            | succ n_74 ih_74 =>
              intro l5_74 l6_74 f34 f35 f36 u74_0 hm_74
              unfold w_X12_prefix_74
              unfold w_X12_prefix_74B
              refine ⟨i_in (by omega) (by omega), ?_⟩
              intro x81 ex81
              have f37 : x81.toInt = x28.toInt := congrArg Int32.toInt (ex81.trans ex28.symm)
              have f38 : 0 ≤ x81.toInt ∧ x81.toInt ≤ 100 := by have h9 := rp_get (P := (fun k v => 0 ≤ v ∧ v ≤ 100)) (a := p2.toInt) b0 ex81 rfl (by omega) (by omega) (by omega); omega
              refine ⟨fun c82 => ?_, fun c82 => ?_⟩
              · have f39 : x81.toInt ≤ l6_74.toInt := i_le (a := x81.toInt) (b := l6_74.toInt) rfl rfl c82
                refine ⟨i_in (by omega) (by omega), ?_⟩
                intro x168 ex168
                have f40 : x168.toInt = x28.toInt := congrArg Int32.toInt (ex168.trans ex28.symm)
                have f41 : 0 ≤ x168.toInt ∧ x168.toInt ≤ 100 := by have h9 := rp_get (P := (fun k v => 0 ≤ v ∧ v ≤ 100)) (a := p2.toInt) b0 ex168 rfl (by omega) (by omega) (by omega); omega
                intro x170 ex170
                have f42 : x170.toInt = x168.toInt - p3.toInt := i_sub (a := x168.toInt) (b := p3.toInt) ex170 rfl rfl (by omega) (by omega)
                exact hq x170 0 r8_0 r40_0 r40_1 r40_2 r40_3 r40_4 r40_5 r40_6 r40_7 r40_8 r40_9 r40_10 r40_11 r40_12 r40_13 r40_14 r40_15 r40_16 r40_17 r40_18 r40_19 r40_20 r40_21 r40_22 r40_23 r40_24 r40_25 r54_0 r40_26 r40_27 r40_28 r40_29 (by omega) (by omega) (by omega) (by omega) (rp_mono h24 (by omega) (by omega)) (rp_mono h24 (by omega) (by omega)) (by exact u40_0)
              · have f43 : l6_74.toInt < x81.toInt := i_nle (a := x81.toInt) (b := l6_74.toInt) rfl rfl c82
                intro x90 ex90
                have f44 : x90.toInt = r40_0.toInt - 1 := i_sub (a := r40_0.toInt) (b := 1) ex90 rfl rfl (by omega) (by omega)
                have j_93 : ∀ n_93 : Nat, ∀ (l7_93 : Int32), 0 ≤ l7_93.toInt → l7_93.toInt + 1 ≤ r40_0.toInt → (True) → (l7_93.toInt + 2147483649).toNat < n_93 → w_X12_prefix_93 p2 p3 v_signs 0 r8_0 r40_0 r40_1 r40_2 r40_3 r40_4 r40_5 r40_6 r40_7 r40_8 r40_9 r40_10 r40_11 r40_12 r40_13 r40_14 r40_15 r40_16 r40_17 r40_18 r40_19 r40_20 r40_21 r40_22 r40_23 r40_24 r40_25 r54_0 r40_26 r40_27 r40_28 r40_29 Q (w_X12_prefix_74 p2 p3 v_long0 v_signs Q 0 r8_0 r40_0 r40_1 r40_2 r40_3 r40_4 r40_5 r40_6 r40_7 r40_8 r40_9 r40_10 r40_11 r40_12 r40_13 r40_14 r40_15 r40_16 r40_17 r40_18 r40_19 r40_20 r40_21 r40_22 r40_23 r40_24 r40_25 r54_0 r40_26 r40_27 r40_28 r40_29 n_74) l5_74 l6_74 n_93 l7_93 := by
                  intro n_93
                  induction n_93 with
                  | zero =>
                    intro l7_93 f45 f46 u93_0 hm_93
                    exfalso; omega
                  | succ n_93 ih_93 =>
                    intro l7_93 f45 f46 u93_0 hm_93
                    unfold w_X12_prefix_93
                    unfold w_X12_prefix_93B
                    refine ⟨i_in (by omega) (by omega), ?_⟩
                    intro x99 ex99
                    have f47 : 0 ≤ x99.toInt ∧ x99.toInt ≤ 65535 := by have h9 := rp_get (P := (fun k v => 0 ≤ v ∧ v ≤ 65535)) (a := l7_93.toInt) h24 ex99 rfl (by omega) (by omega) (by omega); omega
                    intro x107 ex107
                    have f48 : x107.toInt = 100 * p2.toInt := i_mul (a := 100) (b := p2.toInt) ex107 rfl rfl (by omega) (by omega)
                    intro x110 ex110
                    have f49 : x110.toInt = x107.toInt + l6_74.toInt := i_add (a := x107.toInt) (b := l6_74.toInt) ex110 rfl rfl (by omega) (by omega)
                    refine ⟨i_in (by omega) (by omega), ?_⟩
                    intro x111 ex111
                    have f50 : 0 ≤ x111.toInt ∧ x111.toInt ≤ 65535 := by have h9 := rp_get (P := (fun k v => 0 ≤ v ∧ v ≤ 65535)) (a := x110.toInt) b1 ex111 rfl (by omega) (by omega) (by omega); omega
                    refine ⟨fun c112 => ?_, fun c112 => ?_⟩
                    · have f51 : x99.toInt ≤ x111.toInt := i_le (a := x99.toInt) (b := x111.toInt) rfl rfl c112
                      intro x130 ex130
                      have f52 : x130.toInt = 500 * l5_74.toInt := i_mul (a := 500) (b := l5_74.toInt) ex130 rfl rfl (by omega) (by omega)
                      refine ⟨i_in (by omega) (by omega), ?_⟩
                      intro x137 ex137
                      have h137 := zTb_o (b := l7_93.toInt) hT9 ex137 (by omega) (by omega) (by omega)
                      have f53 : (0 ≤ x137.toInt ∧ x137.toInt ≤ 260) := by omega
                      intro x138 ex138
                      have f54 : x138.toInt = x130.toInt + x137.toInt := i_add (a := x130.toInt) (b := x137.toInt) ex138 rfl rfl (by omega) (by omega)
                      refine ⟨i_in (by omega) (by omega), ?_⟩
                      intro x139 ex139
                      have h139 := zTb_l (q := l5_74.toInt) (c := x137.toInt) hT9 ex139 (by omega) (by omega) (by omega) (by omega) (by omega)
                      have f55 : (0 ≤ x139.toInt ∧ x139.toInt ≤ 59) := by omega
                      refine ⟨i_in (by omega) (by omega), ?_⟩
                      intro x148 ex148
                      have f56 : (0 ≤ x148.toInt ∧ x148.toInt ≤ 1) := i_bz ex148
                      refine ⟨fun c149 => ?_, fun c149 => ?_⟩
                      · have f57 : x148.toInt ≠ 0 := i_ne (a := x148.toInt) (b := 0) rfl rfl c149
                        intro x157 ex157
                        have f58 : x157.toInt = l6_74.toInt + 1 := i_add (a := l6_74.toInt) (b := 1) ex157 rfl rfl (by omega) (by omega)
                        exact ih_74 x139 x157  (by omega) (by omega) (by omega) (by first | exact h139.2 | (have e0 : (0 : Int32).toInt = 0 := rfl; omega)) (by have h8_0 := i_rng l6_74; have h8_1 := i_rng x157; omega)
                      · have f59 : x148.toInt = 0 := i_eq (a := x148.toInt) (b := 0) rfl rfl c149
                        intro x155 ex155
                        have f60 : x155.toInt = l6_74.toInt - p3.toInt := i_sub (a := l6_74.toInt) (b := p3.toInt) ex155 rfl rfl (by omega) (by omega)
                        exact hq x155 0 r8_0 r40_0 r40_1 r40_2 r40_3 r40_4 r40_5 r40_6 r40_7 r40_8 r40_9 r40_10 r40_11 r40_12 r40_13 r40_14 r40_15 r40_16 r40_17 r40_18 r40_19 r40_20 r40_21 r40_22 r40_23 r40_24 r40_25 r54_0 r40_26 r40_27 r40_28 r40_29 (by omega) (by omega) (by omega) (by omega) (rp_mono h24 (by omega) (by omega)) (rp_mono h24 (by omega) (by omega)) (by exact u40_0)
                    · have f61 : x111.toInt < x99.toInt := i_nle (a := x99.toInt) (b := x111.toInt) rfl rfl c112
                      have f62 : 1 ≤ l7_93.toInt := zB0 hz9 ex99 (by omega) (by omega)
                      intro x115 ex115
                      have f63 : x115.toInt = l7_93.toInt + (-1) := i_add (a := l7_93.toInt) (b := (-1)) ex115 rfl rfl (by omega) (by omega)
                      exact ih_93 x115  (by omega) (by omega) (by trivial) (by have h8_0 := i_rng l7_93; have h8_1 := i_rng x115; omega)
                exact ⟨(x90.toInt + 2147483649).toNat + 1, j_93   ((x90.toInt + 2147483649).toNat + 1) x90  (by omega) (by omega) (by trivial) (by omega)⟩
          exact ⟨((-1) * p3.toInt + 100).toNat + 1, j_74   (((-1) * p3.toInt + 100).toNat + 1) 0 p3  (by omega) (by omega) (by omega) (by first | exact h139.2 | (have e0 : (0 : Int32).toInt = 0 := rfl; omega)) (by omega)⟩
        · have f64 : x62.toInt = 0 := i_eq (a := x62.toInt) (b := 0) rfl rfl c63
          exact hq (-1) 0 r8_0 r40_0 r40_1 r40_2 r40_3 r40_4 r40_5 r40_6 r40_7 r40_8 r40_9 r40_10 r40_11 r40_12 r40_13 r40_14 r40_15 r40_16 r40_17 r40_18 r40_19 r40_20 r40_21 r40_22 r40_23 r40_24 r40_25 r54_0 r40_26 r40_27 r40_28 r40_29 (by omega) (by omega) (by omega) (by omega) (rp_mono h24 (by omega) (by omega)) (rp_mono h24 (by omega) (by omega)) (by exact u40_0)
      · have f65 : r40.toInt ≠ 0 := i_ne (a := r40.toInt) (b := 0) rfl rfl c47
        exact hq r40 0 r8_0 r40_0 r40_1 r40_2 r40_3 r40_4 r40_5 r40_6 r40_7 r40_8 r40_9 r40_10 r40_11 r40_12 r40_13 r40_14 r40_15 r40_16 r40_17 r40_18 r40_19 r40_20 r40_21 r40_22 r40_23 r40_24 r40_25 v_isLive r40_26 r40_27 r40_28 r40_29 (by omega) (by omega) (by omega) (by omega) (rp_mono h24 (by omega) (by omega)) (rp_mono h24 (by omega) (by omega)) (by exact u40_0)
    · have f66 : r29.toInt = 0 := i_eq (a := r29.toInt) (b := 0) rfl rfl c32
      exact hq (-4) 0 r8_0 v_boundMany v_acts v_labels v_tasks v_eaters v_reached v_reachesEnd v_isBound v_bounds v_act v_actA v_actB v_labelAt v_task v_taskA v_taskB v_held v_follows v_endsAfter v_eaterOf v_eaterNode v_isGone v_walk v_states v_stateSet v_isTaken v_isLive v_classes v_classTakes v_classOf v_leads (by omega) (by omega) (by omega) (by omega) (rp_mono b2 (by omega) (by omega)) (rp_mono b2 (by omega) (by omega)) (by exact u1)
  · have f67 : r8.toInt ≠ 0 := i_ne (a := r8.toInt) (b := 0) rfl rfl c15
    exact hq r8 0 r8_0 v_boundMany v_acts v_labels v_tasks v_eaters v_reached v_reachesEnd v_isBound v_bounds v_act v_actA v_actB v_labelAt v_task v_taskA v_taskB v_held v_follows v_endsAfter v_eaterOf v_eaterNode v_isGone v_walk v_states v_stateSet v_isTaken v_isLive v_classes v_classTakes v_classOf v_leads (by omega) (by omega) (by omega) (by omega) (rp_mono b2 (by omega) (by omega)) (rp_mono b2 (by omega) (by omega)) (by exact u1)
set_option maxHeartbeats 4000000 in
theorem ok_X12_bothBars {p1 : Int32} {p2 : Int32} {v_boundMany : Int32} {v_acts : Int32} {v_labels : Int32} {v_tasks : Int32} {v_eaters : Int32} {v_reached : Int64} {v_reachesEnd : Bool} {v_sorts : Int32} {v_many : Nat → Int32} {v_sort : Nat → Int32} {v_value : Nat → Int32} {v_least : Nat → Int32} {v_most : Nat → Int32} {v_parts : Nat → Int32} {v_end : Nat → Int32} {v_size : Nat → Int32} {v_positions : Nat → Int32} {v_firstPart : Nat → Int32} {v_mayEmpty : Nat → Bool} {v_inCase : Nat → Bool} {v_partBegin : Nat → Int32} {v_partEnd : Nat → Int32} {v_isBound : Nat → Bool} {v_bounds : Nat → Int32} {v_act : Nat → Int32} {v_actA : Nat → Int32} {v_actB : Nat → Int32} {v_labelAt : Nat → Int32} {v_task : Nat → Int32} {v_taskA : Nat → Int32} {v_taskB : Nat → Int32} {v_held : Nat → Int32} {v_follows : Nat → Int64} {v_endsAfter : Nat → Bool} {v_eaterOf : Nat → Int32} {v_eaterNode : Nat → Int32} {v_isGone : Nat → Bool} {v_walk : Nat → Int32} {v_states : Nat → Int32} {v_stateSet : Nat → Int64} {v_isTaken : Nat → Bool} {v_classes : Nat → Int32} {v_classTakes : Nat → Int64} {v_classOf : Nat → Int32} {v_leads : Nat → Int32} {v_sortA : Nat → Int32} {v_sortB : Nat → Int32} {v_sortSign : Nat → Int32} {v_holder : Nat → Int32} {v_captures : Nat → Int32} {Q : Int32 → Int32 → Int32 → Int32 → Int32 → Int32 → Int64 → Bool → Int32 → (Nat → Bool) → (Nat → Int32) → (Nat → Int32) → (Nat → Int32) → (Nat → Int32) → (Nat → Int32) → (Nat → Int32) → (Nat → Int32) → (Nat → Int32) → (Nat → Int32) → (Nat → Int64) → (Nat → Bool) → (Nat → Int32) → (Nat → Int32) → (Nat → Bool) → (Nat → Int32) → (Nat → Int32) → (Nat → Int64) → (Nat → Bool) → (Nat → Int32) → (Nat → Int64) → (Nat → Int32) → (Nat → Int32) → (Nat → Int32) → (Nat → Int32) → (Nat → Int32) → Prop} (a0 : 0 ≤ p1.toInt) (a1 : p1.toInt ≤ 5) (a2 : 0 ≤ p2.toInt) (a3 : p2.toInt ≤ 5) (a4 : 0 ≤ v_boundMany.toInt) (a5 : v_boundMany.toInt ≤ 3000) (b0 : rp (fun k v => 0 ≤ v ∧ v ≤ 65535) v_bounds 0 v_boundMany.toInt) (u0 : zSl v_sort v_value v_least v_most v_holder v_parts v_end v_firstPart v_partBegin v_partEnd (220 * p1.toInt) (420 * p1.toInt) (zg v_many p1.toInt) (zg v_captures p1.toInt)) (u1 : zMs v_sort v_least v_most v_end v_size v_positions (220 * p1.toInt) 0 (zg v_many p1.toInt)) (u2 : zSl v_sort v_value v_least v_most v_holder v_parts v_end v_firstPart v_partBegin v_partEnd (220 * p2.toInt) (420 * p2.toInt) (zg v_many p2.toInt) (zg v_captures p2.toInt)) (u3 : zMs v_sort v_least v_most v_end v_size v_positions (220 * p2.toInt) 0 (zg v_many p2.toInt)) (u4 : zNo v_isBound) (hq : ∀ (r : Int32) (ov_boundMany : Int32) (ov_acts : Int32) (ov_labels : Int32) (ov_tasks : Int32) (ov_eaters : Int32) (ov_reached : Int64) (ov_reachesEnd : Bool) (ov_sorts : Int32) (ov_isBound : Nat → Bool) (ov_bounds : Nat → Int32) (ov_act : Nat → Int32) (ov_actA : Nat → Int32) (ov_actB : Nat → Int32) (ov_labelAt : Nat → Int32) (ov_task : Nat → Int32) (ov_taskA : Nat → Int32) (ov_taskB : Nat → Int32) (ov_held : Nat → Int32) (ov_follows : Nat → Int64) (ov_endsAfter : Nat → Bool) (ov_eaterOf : Nat → Int32) (ov_eaterNode : Nat → Int32) (ov_isGone : Nat → Bool) (ov_walk : Nat → Int32) (ov_states : Nat → Int32) (ov_stateSet : Nat → Int64) (ov_isTaken : Nat → Bool) (ov_classes : Nat → Int32) (ov_classTakes : Nat → Int64) (ov_classOf : Nat → Int32) (ov_leads : Nat → Int32) (ov_sortA : Nat → Int32) (ov_sortB : Nat → Int32) (ov_sortSign : Nat → Int32), 0 ≤ r.toInt + 7 → r.toInt ≤ 0 → 0 ≤ ov_boundMany.toInt → ov_boundMany.toInt ≤ 3000 → rp (fun k v => 0 ≤ v ∧ v ≤ 65535) ov_bounds 0 ov_boundMany.toInt → (zNo ov_isBound) → (r.toInt = 0 → (zTb ov_states ov_classes ov_leads ov_classOf 0 ov_boundMany.toInt ∧ zTb ov_states ov_classes ov_leads ov_classOf 1 ov_boundMany.toInt ∧ zSo ov_sortA ov_sortB ov_classes ov_sorts.toInt ∧ (0 ≤ ov_sorts.toInt ∧ ov_sorts.toInt ≤ 260) ∧ (1 ≤ ov_boundMany.toInt ∧ ov_boundMany.toInt ≤ 260))) → Q r ov_boundMany ov_acts ov_labels ov_tasks ov_eaters ov_reached ov_reachesEnd ov_sorts ov_isBound ov_bounds ov_act ov_actA ov_actB ov_labelAt ov_task ov_taskA ov_taskB ov_held ov_follows ov_endsAfter ov_eaterOf ov_eaterNode ov_isGone ov_walk ov_states ov_stateSet ov_isTaken ov_classes ov_classTakes ov_classOf ov_leads ov_sortA ov_sortB ov_sortSign) : w_X12_bothBars p1 p2 v_boundMany v_acts v_labels v_tasks v_eaters v_reached v_reachesEnd v_sorts v_many v_sort v_value v_least v_most v_parts v_end v_size v_positions v_firstPart v_mayEmpty v_inCase v_partBegin v_partEnd v_isBound v_bounds v_act v_actA v_actB v_labelAt v_task v_taskA v_taskB v_held v_follows v_endsAfter v_eaterOf v_eaterNode v_isGone v_walk v_states v_stateSet v_isTaken v_classes v_classTakes v_classOf v_leads v_sortA v_sortB v_sortSign Q := by
  have q_t : (bz true).toInt = 1 := rfl
  have q_f : (bz false).toInt = 0 := rfl
  have q_m6 : ((-6) : Int32).toInt = (-6) := rfl
  have q_0 : (0 : Int32).toInt = 0 := rfl
  have q_1 : (1 : Int32).toInt = 1 := rfl
  have q_2 : (2 : Int32).toInt = 2 := rfl
  unfold w_X12_bothBars
  refine ok_X12_kindBars (v_holder := v_holder) (v_parts := v_parts) (v_end := v_end) (v_firstPart := v_firstPart) (v_partBegin := v_partBegin) (v_partEnd := v_partEnd) (v_captures := v_captures) (by omega) (by omega) (by exact u0) (fun r3 f1 u3_0 => ?_)
  have j_20 : ∀ (s0_20 : Int32), 0 ≤ s0_20.toInt + 7 → s0_20.toInt ≤ 0 → ((r3.toInt = 0) ∨ (s0_20.toInt + 6 = 0)) → 0 ≤ s0_20.toInt + 6 → (s0_20.toInt = 0 → (zKb v_sort (220 * p1.toInt) (zg v_many p1.toInt) ∧ zKb v_sort (220 * p2.toInt) (zg v_many p2.toInt))) → w_X12_bothBars_20 p1 p2 v_many v_sort v_value v_least v_most v_parts v_end v_size v_positions v_firstPart v_inCase v_partBegin v_partEnd Q s0_20 v_boundMany v_acts v_labels v_tasks v_eaters v_reached v_reachesEnd v_sorts v_isBound v_bounds v_act v_actA v_actB v_labelAt v_task v_taskA v_taskB v_held v_follows v_endsAfter v_eaterOf v_eaterNode v_isGone v_walk v_states v_stateSet v_isTaken v_classes v_classTakes v_classOf v_leads v_sortA v_sortB v_sortSign := by
    intro s0_20 f2 f3 f4 f5 u20_0
    unfold w_X12_bothBars_20
    have j_35 : ∀ (s0_35 : Int32), 0 ≤ s0_35.toInt + 7 → s0_35.toInt ≤ 0 → ((s0_35.toInt = s0_20.toInt) ∨ (s0_20.toInt = 0)) → (s0_35.toInt = 0 → ((zKb v_sort (220 * p1.toInt) (zg v_many p1.toInt) ∧ zKb v_sort (220 * p2.toInt) (zg v_many p2.toInt)) ∧ (zg v_size (220 * p1.toInt) ≤ 200) ∧ (zg v_positions (220 * p1.toInt) ≤ 60))) → w_X12_bothBars_35 p1 p2 v_many v_sort v_value v_least v_most v_parts v_end v_size v_positions v_firstPart v_inCase v_partBegin v_partEnd Q s0_35 v_boundMany v_acts v_labels v_tasks v_eaters v_reached v_reachesEnd v_sorts v_isBound v_bounds v_act v_actA v_actB v_labelAt v_task v_taskA v_taskB v_held v_follows v_endsAfter v_eaterOf v_eaterNode v_isGone v_walk v_states v_stateSet v_isTaken v_classes v_classTakes v_classOf v_leads v_sortA v_sortB v_sortSign := by
      intro s0_35 f6 f7 f8 u35_0
      unfold w_X12_bothBars_35
      have j_50 : ∀ (s0_50 : Int32), 0 ≤ s0_50.toInt + 7 → s0_50.toInt ≤ 0 → ((s0_50.toInt = s0_35.toInt) ∨ (s0_35.toInt = 0)) → (s0_50.toInt = 0 → (((zKb v_sort (220 * p1.toInt) (zg v_many p1.toInt) ∧ zKb v_sort (220 * p2.toInt) (zg v_many p2.toInt)) ∧ (zg v_size (220 * p1.toInt) ≤ 200) ∧ (zg v_positions (220 * p1.toInt) ≤ 60)) ∧ (zg v_size (220 * p2.toInt) ≤ 200) ∧ (zg v_positions (220 * p2.toInt) ≤ 60))) → w_X12_bothBars_50 p1 p2 v_many v_sort v_value v_least v_most v_parts v_end v_firstPart v_inCase v_partBegin v_partEnd Q s0_50 v_boundMany v_acts v_labels v_tasks v_eaters v_reached v_reachesEnd v_sorts v_isBound v_bounds v_act v_actA v_actB v_labelAt v_task v_taskA v_taskB v_held v_follows v_endsAfter v_eaterOf v_eaterNode v_isGone v_walk v_states v_stateSet v_isTaken v_classes v_classTakes v_classOf v_leads v_sortA v_sortB v_sortSign := by
        intro s0_50 f9 f10 f11 u50_0
        unfold w_X12_bothBars_50
        refine ⟨fun c52 => ?_, fun c52 => ?_⟩
        · have f12 : s0_50.toInt = 0 := i_eq (a := s0_50.toInt) (b := 0) rfl rfl c52
          have h50 := u50_0 (by omega)
          obtain ⟨N9, hN9⟩ : ∃ N9 : Nat, (N9 : Int) = 65409 := ⟨65409, rfl⟩
          refine ok_X12_markBounds (v_least := v_least) (v_most := v_most) (v_holder := v_holder) (v_end := v_end) (v_captures := v_captures) (gN9 := N9) (by omega) (by omega) (by exact u0) (by exact hN9) (fun r59_0 u59_0 => ?_)
          refine ok_X12_markBounds (v_least := v_least) (v_most := v_most) (v_holder := v_holder) (v_end := v_end) (v_captures := v_captures) (gN9 := N9) (by omega) (by omega) (by exact u2) (by exact hN9) (fun r64_0 u64_0 => ?_)
          refine ok_X12_findBounds (gN9 := N9) (by exact hN9) (by have h9 := zNo_th hN9 u4; omega) (fun r68_0 r68_1 r68_2 f13 f14 f15 f16 f17 f18 f19 f20 h21 u68_0 u68_1 => ?_)
          refine ok_X12_makeTable (v_holder := v_holder) (v_many := v_many) (v_captures := v_captures) (v_size := v_size) (v_positions := v_positions) (by omega) (by omega) (by omega) (by omega) (by omega) (by omega) (rp_mono h21 (by omega) (by omega)) (by exact u0) (by exact u1) (by exact h50.1.1.1) (by exact h50.1.2.1) (by exact h50.1.2.2) (fun r74 r74_0 r74_1 r74_2 r74_3 r74_4 r74_5 r74_6 r74_7 r74_8 r74_9 r74_10 r74_11 r74_12 r74_13 r74_14 r74_15 r74_16 r74_17 r74_18 r74_19 r74_20 r74_21 r74_22 r74_23 r74_24 r74_25 r74_26 f22 f23 f24 f25 f26 f27 f28 f29 f30 f31 f32 f33 f34 u74_0 u74_1 => ?_)
          have j_92 : ∀ (s0_92 : Int32) (v_acts_92 : Int32) (v_labels_92 : Int32) (v_tasks_92 : Int32) (v_eaters_92 : Int32) (v_reached_92 : Int64) (v_reachesEnd_92 : Bool) (v_act_92 : Nat → Int32) (v_actA_92 : Nat → Int32) (v_actB_92 : Nat → Int32) (v_labelAt_92 : Nat → Int32) (v_task_92 : Nat → Int32) (v_taskA_92 : Nat → Int32) (v_taskB_92 : Nat → Int32) (v_held_92 : Nat → Int32) (v_follows_92 : Nat → Int64) (v_endsAfter_92 : Nat → Bool) (v_eaterOf_92 : Nat → Int32) (v_eaterNode_92 : Nat → Int32) (v_isGone_92 : Nat → Bool) (v_walk_92 : Nat → Int32) (v_states_92 : Nat → Int32) (v_stateSet_92 : Nat → Int64) (v_isTaken_92 : Nat → Bool) (v_classes_92 : Nat → Int32) (v_classTakes_92 : Nat → Int64) (v_classOf_92 : Nat → Int32) (v_leads_92 : Nat → Int32), 0 ≤ s0_92.toInt + 7 → s0_92.toInt ≤ 0 → 1 ≤ v_acts_92.toInt → v_acts_92.toInt ≤ 2999 → 0 ≤ v_labels_92.toInt → 0 ≤ v_tasks_92.toInt → v_tasks_92.toInt ≤ 0 → 0 ≤ v_eaters_92.toInt → v_eaters_92.toInt ≤ 60 → (s0_92.toInt = 0 → (zTb v_states_92 v_classes_92 v_leads_92 v_classOf_92 0 r68_0.toInt ∧ zTb v_states_92 v_classes_92 v_leads_92 v_classOf_92 1 r68_0.toInt)) → w_X12_bothBars_92 Q s0_92 r68_0 v_acts_92 v_labels_92 v_tasks_92 v_eaters_92 v_reached_92 v_reachesEnd_92 v_sorts r68_1 r68_2 v_act_92 v_actA_92 v_actB_92 v_labelAt_92 v_task_92 v_taskA_92 v_taskB_92 v_held_92 v_follows_92 v_endsAfter_92 v_eaterOf_92 v_eaterNode_92 v_isGone_92 v_walk_92 v_states_92 v_stateSet_92 v_isTaken_92 v_classes_92 v_classTakes_92 v_classOf_92 v_leads_92 v_sortA v_sortB v_sortSign := by
            intro s0_92 v_acts_92 v_labels_92 v_tasks_92 v_eaters_92 v_reached_92 v_reachesEnd_92 v_act_92 v_actA_92 v_actB_92 v_labelAt_92 v_task_92 v_taskA_92 v_taskB_92 v_held_92 v_follows_92 v_endsAfter_92 v_eaterOf_92 v_eaterNode_92 v_isGone_92 v_walk_92 v_states_92 v_stateSet_92 v_isTaken_92 v_classes_92 v_classTakes_92 v_classOf_92 v_leads_92 f35 f36 f37 f38 f39 f40 f41 f42 f43 u92_0
            unfold w_X12_bothBars_92
            have j_101 : ∀ (v_sorts_101 : Int32) (v_sortA_101 : Nat → Int32) (v_sortB_101 : Nat → Int32) (v_sortSign_101 : Nat → Int32), (s0_92.toInt = 0 → (zTb v_states_92 v_classes_92 v_leads_92 v_classOf_92 0 r68_0.toInt ∧ zTb v_states_92 v_classes_92 v_leads_92 v_classOf_92 1 r68_0.toInt ∧ zSo v_sortA_101 v_sortB_101 v_classes_92 v_sorts_101.toInt ∧ (0 ≤ v_sorts_101.toInt ∧ v_sorts_101.toInt ≤ 260))) → w_X12_bothBars_101 Q s0_92 r68_0 v_acts_92 v_labels_92 v_tasks_92 v_eaters_92 v_reached_92 v_reachesEnd_92 v_sorts_101 r68_1 r68_2 v_act_92 v_actA_92 v_actB_92 v_labelAt_92 v_task_92 v_taskA_92 v_taskB_92 v_held_92 v_follows_92 v_endsAfter_92 v_eaterOf_92 v_eaterNode_92 v_isGone_92 v_walk_92 v_states_92 v_stateSet_92 v_isTaken_92 v_classes_92 v_classTakes_92 v_classOf_92 v_leads_92 v_sortA_101 v_sortB_101 v_sortSign_101 := by
              intro v_sorts_101 v_sortA_101 v_sortB_101 v_sortSign_101 u101_0
              unfold w_X12_bothBars_101
              exact hq s0_92 r68_0 v_acts_92 v_labels_92 v_tasks_92 v_eaters_92 v_reached_92 v_reachesEnd_92 v_sorts_101 r68_1 r68_2 v_act_92 v_actA_92 v_actB_92 v_labelAt_92 v_task_92 v_taskA_92 v_taskB_92 v_held_92 v_follows_92 v_endsAfter_92 v_eaterOf_92 v_eaterNode_92 v_isGone_92 v_walk_92 v_states_92 v_stateSet_92 v_isTaken_92 v_classes_92 v_classTakes_92 v_classOf_92 v_leads_92 v_sortA_101 v_sortB_101 v_sortSign_101 (by omega) (by omega) (by omega) (by omega) (rp_mono h21 (by omega) (by omega)) (by exact u68_0) (by exact fun z => ⟨(u101_0 z).1, (u101_0 z).2.1, (u101_0 z).2.2.1, (u101_0 z).2.2.2, ⟨by omega, by omega⟩⟩)
            refine ⟨fun c94 => ?_, fun c94 => ?_⟩
            · have f44 : s0_92.toInt ≠ 0 := i_ne (a := s0_92.toInt) (b := 0) rfl rfl c94
              exact j_101 v_sorts v_sortA v_sortB v_sortSign (by first | exact fun z => absurd z (by omega) | exact fun _ => ⟨h92.1, h92.2, u98_0, ⟨by omega, by omega⟩⟩)
            · have f45 : s0_92.toInt = 0 := i_eq (a := s0_92.toInt) (b := 0) rfl rfl c94
              have h92 := u92_0 (by omega)
              refine ok_X12_findSorts (v_states := v_states_92) (v_classes := v_classes_92) (v_leads := v_leads_92) (by omega) (by omega) (rp_mono h21 (by omega) (by omega)) (by exact h92.1) (by exact h92.2) (fun r98_0 r98_1 r98_2 r98_3 f46 f47 f48 f49 f50 f51 f52 f53 u98_0 => ?_)
              exact j_101 r98_0 r98_1 r98_2 r98_3 (by first | exact fun z => absurd z (by omega) | exact fun _ => ⟨h92.1, h92.2, u98_0, ⟨by omega, by omega⟩⟩)
          refine ⟨fun c79 => ?_, fun c79 => ?_⟩
          · have f54 : r74.toInt ≠ 0 := i_ne (a := r74.toInt) (b := 0) rfl rfl c79
            exact j_92 r74 r74_0 r74_1 r74_2 r74_3 r74_4 r74_5 r74_6 r74_7 r74_8 r74_9 r74_10 r74_11 r74_12 r74_13 r74_14 r74_15 r74_16 r74_17 r74_18 r74_19 r74_20 r74_21 r74_22 r74_23 r74_24 r74_25 r74_26 (by omega) (by omega) (by omega) (by omega) (by omega) (by omega) (by omega) (by omega) (by omega) (by first | exact fun z => absurd z (by omega) | exact fun z => ⟨zTf_tb u85_1 rfl (by omega) (u74_0 (by omega)), u85_0 z⟩)
          · have f55 : r74.toInt = 0 := i_eq (a := r74.toInt) (b := 0) rfl rfl c79
            refine ok_X12_makeTable (v_holder := v_holder) (v_many := v_many) (v_captures := v_captures) (v_size := v_size) (v_positions := v_positions) (by omega) (by omega) (by omega) (by omega) (by omega) (by omega) (rp_mono h21 (by omega) (by omega)) (by exact u2) (by exact u3) (by exact h50.1.1.2) (by exact h50.2.1) (by exact h50.2.2) (fun r85 r85_0 r85_1 r85_2 r85_3 r85_4 r85_5 r85_6 r85_7 r85_8 r85_9 r85_10 r85_11 r85_12 r85_13 r85_14 r85_15 r85_16 r85_17 r85_18 r85_19 r85_20 r85_21 r85_22 r85_23 r85_24 r85_25 r85_26 f56 f57 f58 f59 f60 f61 f62 f63 f64 f65 f66 f67 f68 u85_0 u85_1 => ?_)
            exact j_92 r85 r85_0 r85_1 r85_2 r85_3 r85_4 r85_5 r85_6 r85_7 r85_8 r85_9 r85_10 r85_11 r85_12 r85_13 r85_14 r85_15 r85_16 r85_17 r85_18 r85_19 r85_20 r85_21 r85_22 r85_23 r85_24 r85_25 r85_26 (by omega) (by omega) (by omega) (by omega) (by omega) (by omega) (by omega) (by omega) (by omega) (by first | exact fun z => absurd z (by omega) | exact fun z => ⟨zTf_tb u85_1 rfl (by omega) (u74_0 (by omega)), u85_0 z⟩)
        · have f69 : s0_50.toInt ≠ 0 := i_ne (a := s0_50.toInt) (b := 0) rfl rfl c52
          exact hq s0_50 v_boundMany v_acts v_labels v_tasks v_eaters v_reached v_reachesEnd v_sorts v_isBound v_bounds v_act v_actA v_actB v_labelAt v_task v_taskA v_taskB v_held v_follows v_endsAfter v_eaterOf v_eaterNode v_isGone v_walk v_states v_stateSet v_isTaken v_classes v_classTakes v_classOf v_leads v_sortA v_sortB v_sortSign (by omega) (by omega) (by omega) (by omega) (rp_mono b0 (by omega) (by omega)) (by exact u4) (by exact fun z => absurd z (by omega))
      refine ⟨fun c37 => ?_, fun c37 => ?_⟩
      · have f70 : s0_35.toInt ≠ 0 := i_ne (a := s0_35.toInt) (b := 0) rfl rfl c37
        exact j_50 s0_35 (by omega) (by omega) (by omega) (by first | exact fun z => absurd z (by omega) | exact fun z => ⟨u35_0 (by omega), (u43_0 z).1 (by decide), (u43_0 z).2 (by decide)⟩)
      · have f71 : s0_35.toInt = 0 := i_eq (a := s0_35.toInt) (b := 0) rfl rfl c37
        refine ok_X12_sizeBars (by omega) (by omega) (fun r43 f72 f73 u43_0 => ?_)
        exact j_50 r43 (by omega) (by omega) (by omega) (by first | exact fun z => absurd z (by omega) | exact fun z => ⟨u35_0 (by omega), (u43_0 z).1 (by decide), (u43_0 z).2 (by decide)⟩)
    refine ⟨fun c22 => ?_, fun c22 => ?_⟩
    · have f74 : s0_20.toInt ≠ 0 := i_ne (a := s0_20.toInt) (b := 0) rfl rfl c22
      exact j_35 s0_20 (by omega) (by omega) (by omega) (by first | exact fun z => absurd z (by omega) | exact fun z => ⟨u20_0 (by omega), (u28_0 z).1 (by decide), (u28_0 z).2 (by decide)⟩)
    · have f75 : s0_20.toInt = 0 := i_eq (a := s0_20.toInt) (b := 0) rfl rfl c22
      refine ok_X12_sizeBars (by omega) (by omega) (fun r28 f76 f77 u28_0 => ?_)
      exact j_35 r28 (by omega) (by omega) (by omega) (by first | exact fun z => absurd z (by omega) | exact fun z => ⟨u20_0 (by omega), (u28_0 z).1 (by decide), (u28_0 z).2 (by decide)⟩)
  refine ⟨fun c6 => ?_, fun c6 => ?_⟩
  · have f78 : r3.toInt = 0 := i_eq (a := r3.toInt) (b := 0) rfl rfl c6
    refine ok_X12_kindBars (v_holder := v_holder) (v_parts := v_parts) (v_end := v_end) (v_firstPart := v_firstPart) (v_partBegin := v_partBegin) (v_partEnd := v_partEnd) (v_captures := v_captures) (by omega) (by omega) (by exact u2) (fun r17 f79 u17_0 => ?_)
    exact j_20 r17 (by omega) (by omega) (by omega) (by omega) (by first | exact fun z => absurd z (by decide) | exact fun z => ⟨u3_0 (by omega) (by decide), u17_0 z (by decide)⟩)
  · have f80 : r3.toInt ≠ 0 := i_ne (a := r3.toInt) (b := 0) rfl rfl c6
    exact j_20 (-6) (by omega) (by omega) (by omega) (by omega) (by first | exact fun z => absurd z (by decide) | exact fun z => ⟨u3_0 (by omega) (by decide), u17_0 z (by decide)⟩)
