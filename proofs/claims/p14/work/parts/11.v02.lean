set_option maxHeartbeats 4000000 in
theorem ok_X12_makeTable {p1 : Int32} {p2 : Int32} {v_boundMany : Int32} {v_reached : Int64} {v_reachesEnd : Bool} {v_sort : Nat → Int32} {v_value : Nat → Int32} {v_least : Nat → Int32} {v_most : Nat → Int32} {v_parts : Nat → Int32} {v_end : Nat → Int32} {v_firstPart : Nat → Int32} {v_inCase : Nat → Bool} {v_partBegin : Nat → Int32} {v_partEnd : Nat → Int32} {v_bounds : Nat → Int32} {v_act : Nat → Int32} {v_actA : Nat → Int32} {v_actB : Nat → Int32} {v_labelAt : Nat → Int32} {v_task : Nat → Int32} {v_taskA : Nat → Int32} {v_taskB : Nat → Int32} {v_held : Nat → Int32} {v_follows : Nat → Int64} {v_endsAfter : Nat → Bool} {v_eaterOf : Nat → Int32} {v_eaterNode : Nat → Int32} {v_isGone : Nat → Bool} {v_walk : Nat → Int32} {v_states : Nat → Int32} {v_stateSet : Nat → Int64} {v_isTaken : Nat → Bool} {v_classes : Nat → Int32} {v_classTakes : Nat → Int64} {v_classOf : Nat → Int32} {v_leads : Nat → Int32} {v_holder : Nat → Int32} {v_many : Nat → Int32} {v_captures : Nat → Int32} {v_size : Nat → Int32} {v_positions : Nat → Int32} {Q : Int32 → Int32 → Int32 → Int32 → Int32 → Int64 → Bool → (Nat → Int32) → (Nat → Int32) → (Nat → Int32) → (Nat → Int32) → (Nat → Int32) → (Nat → Int32) → (Nat → Int32) → (Nat → Int32) → (Nat → Int64) → (Nat → Bool) → (Nat → Int32) → (Nat → Int32) → (Nat → Bool) → (Nat → Int32) → (Nat → Int32) → (Nat → Int64) → (Nat → Bool) → (Nat → Int32) → (Nat → Int64) → (Nat → Int32) → (Nat → Int32) → Prop} (a0 : 0 ≤ p1.toInt) (a1 : p1.toInt ≤ 1) (a2 : 0 ≤ p2.toInt) (a3 : p2.toInt ≤ 5) (a4 : 1 ≤ v_boundMany.toInt) (a5 : v_boundMany.toInt ≤ 260) (b0 : rp (fun k v => 0 ≤ v ∧ v ≤ 65535) v_bounds 0 v_boundMany.toInt) (u0 : zSl v_sort v_value v_least v_most v_holder v_parts v_end v_firstPart v_partBegin v_partEnd (220 * p2.toInt) (420 * p2.toInt) (zg v_many p2.toInt) (zg v_captures p2.toInt)) (u1 : zMs v_sort v_least v_most v_end v_size v_positions (220 * p2.toInt) 0 (zg v_many p2.toInt)) (u2 : zKb v_sort (220 * p2.toInt) (zg v_many p2.toInt)) (u3 : zg v_size (220 * p2.toInt) ≤ 200) (u4 : zg v_positions (220 * p2.toInt) ≤ 60) (hq : ∀ (r : Int32) (ov_acts : Int32) (ov_labels : Int32) (ov_tasks : Int32) (ov_eaters : Int32) (ov_reached : Int64) (ov_reachesEnd : Bool) (ov_act : Nat → Int32) (ov_actA : Nat → Int32) (ov_actB : Nat → Int32) (ov_labelAt : Nat → Int32) (ov_task : Nat → Int32) (ov_taskA : Nat → Int32) (ov_taskB : Nat → Int32) (ov_held : Nat → Int32) (ov_follows : Nat → Int64) (ov_endsAfter : Nat → Bool) (ov_eaterOf : Nat → Int32) (ov_eaterNode : Nat → Int32) (ov_isGone : Nat → Bool) (ov_walk : Nat → Int32) (ov_states : Nat → Int32) (ov_stateSet : Nat → Int64) (ov_isTaken : Nat → Bool) (ov_classes : Nat → Int32) (ov_classTakes : Nat → Int64) (ov_classOf : Nat → Int32) (ov_leads : Nat → Int32), 0 ≤ ov_acts.toInt + 1 → 0 ≤ ov_acts.toInt → 0 ≤ ov_labels.toInt + 1 → 0 ≤ ov_labels.toInt → 0 ≤ ov_tasks.toInt + 1 → 0 ≤ ov_tasks.toInt → ov_acts.toInt ≤ 2700 → ov_tasks.toInt ≤ 0 → 1 ≤ ov_acts.toInt → ov_acts.toInt ≤ 2999 → 0 ≤ ov_eaters.toInt → ov_eaters.toInt ≤ 60 → ((r.toInt = 0) ∨ (r.toInt + 7 = 0)) → (r.toInt = 0 → zTb ov_states ov_classes ov_leads ov_classOf p1.toInt v_boundMany.toInt) → (zTf v_states v_classes v_leads v_classOf ov_states ov_classes ov_leads ov_classOf p1.toInt) → Q r ov_acts ov_labels ov_tasks ov_eaters ov_reached ov_reachesEnd ov_act ov_actA ov_actB ov_labelAt ov_task ov_taskA ov_taskB ov_held ov_follows ov_endsAfter ov_eaterOf ov_eaterNode ov_isGone ov_walk ov_states ov_stateSet ov_isTaken ov_classes ov_classTakes ov_classOf ov_leads) : w_X12_makeTable p1 p2 v_boundMany v_reached v_reachesEnd v_sort v_value v_least v_most v_parts v_end v_firstPart v_inCase v_partBegin v_partEnd v_bounds v_act v_actA v_actB v_labelAt v_task v_taskA v_taskB v_held v_follows v_endsAfter v_eaterOf v_eaterNode v_isGone v_walk v_states v_stateSet v_isTaken v_classes v_classTakes v_classOf v_leads Q := by
  have q_t : (bz true).toInt = 1 := rfl
  have q_f : (bz false).toInt = 0 := rfl
  have q_m7 : ((-7) : Int32).toInt = (-7) := rfl
  have q_0 : (0 : Int32).toInt = 0 := rfl
  have q_1 : (1 : Int32).toInt = 1 := rfl
  unfold w_X12_makeTable
  have f1 : 1 ≤ (zg v_many p2.toInt : Int) := (zS_n u0).1
  have f2 : (zg v_many p2.toInt : Int) ≤ 220 := (zS_n u0).2
  refine ok_X12_compile (gZ := (fun c => zg v_size (220 * p2.toInt + c))) (gfi := 1) (v_holder := v_holder) (v_parts := v_parts) (v_firstPart := v_firstPart) (v_partBegin := v_partBegin) (v_partEnd := v_partEnd) (v_acts := 0) (v_labels := 0) (v_tasks := 0) (v_many := v_many) (v_captures := v_captures) (gP := (fun c => zg v_positions (220 * p2.toInt + c))) (gE := 1) (by omega) (by omega) (by omega) (by omega) (by exact u0) (by exact zZ_f u0 u1) (by exact (by show zg v_size (220 * p2.toInt + 0) ≤ 220; rw [Int.add_zero]; omega)) (by exact Or.inl ⟨rfl, by decide⟩) (by exact fun _ => ⟨u2, (by show zg v_size (220 * p2.toInt + 0) ≤ 200; rw [Int.add_zero]; omega)⟩) (by exact fun _ => ⟨rfl, zY_m u1, (by show zg v_positions (220 * p2.toInt + 0) ≤ 60; rw [Int.add_zero]; omega)⟩) (fun r3_0 r3_1 r3_2 r3_3 r3_4 r3_5 r3_6 r3_7 r3_8 r3_9 r3_10 f3 f4 f5 f6 f7 f8 f9 f10 u3_0 u3_1 => ?_)
  have hC9 := u3_0
  obtain ⟨hG1, hG2, hG3⟩ := zCo_g hC9
  have hE9 := u3_1 rfl
  have hE8 : zcE r3_3 r3_0.toInt ≤ 60 := by
    have h9 : zcE r3_3 r3_0.toInt ≤ zg v_positions (220 * p2.toInt + 0) := hE9
    rw [Int.add_zero] at h9
    omega
  have f11 : 1 ≤ r3_0.toInt := hG2.1
  have f12 : r3_0.toInt ≤ 2999 := hG2.2
  have j_13 : ∀ n_13 : Nat, ∀ (l3_13 : Int32) (v_eaters_13 : Int32) (v_eaterOf_13 : Nat → Int32) (v_eaterNode_13 : Nat → Int32), 0 ≤ l3_13.toInt → l3_13.toInt ≤ r3_0.toInt → 0 ≤ v_eaters_13.toInt → v_eaters_13.toInt ≤ 60 → (zEa v_sort r3_3 r3_4 v_eaterOf_13 v_eaterNode_13 (220 * p2.toInt) (zg v_many p2.toInt) l3_13.toInt v_eaters_13.toInt) → ((-1) * l3_13.toInt + 2147483648).toNat < n_13 → w_X12_makeTable_13 p1 p2 v_boundMany v_sort v_value v_parts v_firstPart v_inCase v_partBegin v_partEnd v_bounds Q r3_0 r3_1 r3_2 v_reached v_reachesEnd r3_3 r3_4 r3_5 r3_6 r3_7 r3_8 r3_9 r3_10 v_follows v_endsAfter v_isGone v_walk v_states v_stateSet v_isTaken v_classes v_classTakes v_classOf v_leads n_13 l3_13 v_eaters_13 v_eaterOf_13 v_eaterNode_13 := by
    intro n_13
    induction n_13 with
    | zero =>
      intro l3_13 v_eaters_13 v_eaterOf_13 v_eaterNode_13 f13 f14 f15 f16 u13_0 hm_13
      exfalso; omega
    | succ n_13 ih_13 =>
      intro l3_13 v_eaters_13 v_eaterOf_13 v_eaterNode_13 f13 f14 f15 f16 u13_0 hm_13
      unfold w_X12_makeTable_13
      unfold w_X12_makeTable_13B
      refine ⟨fun c18 => ?_, fun c18 => ?_⟩
      · have f17 : r3_0.toInt ≤ l3_13.toInt := i_le (a := r3_0.toInt) (b := l3_13.toInt) rfl rfl c18
        have hA9 : zEa v_sort r3_3 r3_4 v_eaterOf_13 v_eaterNode_13 (220 * p2.toInt) (zg v_many p2.toInt) r3_0.toInt v_eaters_13.toInt := by
          rw [show r3_0.toInt = l3_13.toInt by omega]; exact u13_0
        refine ok_X12_reach (by omega) (by omega) (by omega) (by omega) (by exact hG1) (fun r79_0 r79_1 r79_2 r79_3 => ?_)
        have f18 : (0 ≤ (bz r79_1).toInt ∧ (bz r79_1).toInt ≤ 1) := i_bzr r79_1
        have j_96 : ∀ n_96 : Nat, ∀ (l6_96 : Int32) (v_reached_96 : Int64) (v_reachesEnd_96 : Bool) (v_follows_96 : Nat → Int64) (v_endsAfter_96 : Nat → Bool) (v_isGone_96 : Nat → Bool) (v_walk_96 : Nat → Int32), l6_96.toInt ≤ r3_0.toInt → 0 ≤ l6_96.toInt → ((-1) * l6_96.toInt + 2147483648).toNat < n_96 → w_X12_makeTable_96 p1 v_boundMany v_sort v_value v_parts v_firstPart v_inCase v_partBegin v_partEnd v_bounds Q r79_0 (bz r79_1) r3_0 r3_1 r3_2 v_eaters_13 r3_3 r3_4 r3_5 r3_6 r3_7 r3_8 r3_9 r3_10 v_eaterOf_13 v_eaterNode_13 v_states v_stateSet v_isTaken v_classes v_classTakes v_classOf v_leads n_96 l6_96 v_reached_96 v_reachesEnd_96 v_follows_96 v_endsAfter_96 v_isGone_96 v_walk_96 := by
          intro n_96
          induction n_96 with
          | zero =>
            intro l6_96 v_reached_96 v_reachesEnd_96 v_follows_96 v_endsAfter_96 v_isGone_96 v_walk_96 f19 f20 hm_96
            exfalso; omega
          | succ n_96 ih_96 =>
            intro l6_96 v_reached_96 v_reachesEnd_96 v_follows_96 v_endsAfter_96 v_isGone_96 v_walk_96 f19 f20 hm_96
            unfold w_X12_makeTable_96
            unfold w_X12_makeTable_96B
            refine ⟨fun c102 => ?_, fun c102 => ?_⟩
            · have f21 : r3_0.toInt ≤ l6_96.toInt := i_le (a := r3_0.toInt) (b := l6_96.toInt) rfl rfl c102
              refine ⟨i_in (by omega) (by omega), ?_⟩
              intro g167 eg167
              have j_171 : ∀ n_171 : Nat, ∀ (l6_171 : Int32) (v_classes_171 : Nat → Int32) (v_classTakes_171 : Nat → Int64) (v_classOf_171 : Nat → Int32), l6_171.toInt ≤ v_boundMany.toInt → 0 ≤ l6_171.toInt → (zCl v_classes_171 v_classOf_171 p1.toInt l6_171.toInt) → (zTf v_states v_classes v_leads v_classOf v_states v_classes_171 v_leads v_classOf_171 p1.toInt) → ((-1) * l6_171.toInt + 500).toNat < n_171 → w_X12_makeTable_171 p1 v_boundMany v_sort v_value v_parts v_firstPart v_inCase v_partBegin v_partEnd v_bounds Q r79_0 (bz r79_1) r3_0 r3_1 r3_2 v_eaters_13 v_reached_96 v_reachesEnd_96 r3_3 r3_4 r3_5 r3_6 r3_7 r3_8 r3_9 r3_10 v_follows_96 v_endsAfter_96 v_eaterOf_13 v_eaterNode_13 v_isGone_96 v_walk_96 v_states v_stateSet v_isTaken v_leads n_171 l6_171 v_classes_171 v_classTakes_171 v_classOf_171 := by
                intro n_171
                induction n_171 with
                | zero =>
                  intro l6_171 v_classes_171 v_classTakes_171 v_classOf_171 f22 f23 u171_0 u171_1 hm_171
                  exfalso; omega
                | succ n_171 ih_171 =>
                  intro l6_171 v_classes_171 v_classTakes_171 v_classOf_171 f22 f23 u171_0 u171_1 hm_171
                  unfold w_X12_makeTable_171
                  unfold w_X12_makeTable_171B
                  refine ⟨fun c177 => ?_, fun c177 => ?_⟩
                  · have f24 : v_boundMany.toInt ≤ l6_171.toInt := i_le (a := v_boundMany.toInt) (b := l6_171.toInt) rfl rfl c177
                    have hC8 := u171_0
                    have hb8 : l6_171.toInt = v_boundMany.toInt := by omega
                    rw [hb8] at hC8
                    have hc8 := hC8.1
                    refine ⟨i_in (by omega) (by omega), ?_⟩
                    intro g347 eg347
                    intro x355 ex355
                    have f25 : x355.toInt = 61 * p1.toInt := i_mul (a := 61) (b := p1.toInt) ex355 rfl rfl (by omega) (by omega)
                    refine ⟨i_in (by omega) (by omega), ?_⟩
                    intro g357 eg357
                    intro x365 ex365
                    have f26 : x365.toInt = 61 * p1.toInt := i_mul (a := 61) (b := p1.toInt) ex365 rfl rfl (by omega) (by omega)
                    refine ⟨i_in (by omega) (by omega), ?_⟩
                    intro g368 eg368
                    have j_372 : ∀ n_372 : Nat, ∀ (l6_372 : Int32) (v_states_372 : Nat → Int32) (v_stateSet_372 : Nat → Int64) (v_isTaken_372 : Nat → Bool) (v_leads_372 : Nat → Int32), l6_372.toInt ≤ 60 → 0 ≤ l6_372.toInt → (zLw v_states_372 v_classes_171 v_leads_372 p1.toInt l6_372.toInt 0) → (zTf v_states v_classes v_leads v_classOf v_states_372 v_classes_171 v_leads_372 v_classOf_171 p1.toInt) → ((-1) * l6_372.toInt + 60).toNat < n_372 → w_X12_makeTable_372 p1 Q r79_0 r3_0 r3_1 r3_2 v_eaters_13 v_reached_96 v_reachesEnd_96 r3_3 r3_4 r3_5 r3_6 r3_7 r3_8 r3_9 r3_10 v_follows_96 v_endsAfter_96 v_eaterOf_13 v_eaterNode_13 v_isGone_96 v_walk_96 v_classes_171 v_classTakes_171 v_classOf_171 n_372 l6_372 v_states_372 v_stateSet_372 v_isTaken_372 v_leads_372 := by
                      intro n_372
                      induction n_372 with
                      | zero =>
                        intro l6_372 v_states_372 v_stateSet_372 v_isTaken_372 v_leads_372 f27 f28 u372_0 u372_1 hm_372
                        exfalso; omega
                      | succ n_372 ih_372 =>
                        intro l6_372 v_states_372 v_stateSet_372 v_isTaken_372 v_leads_372 f27 f28 u372_0 u372_1 hm_372
                        unfold w_X12_makeTable_372
                        unfold w_X12_makeTable_372B
                        refine ⟨i_in (by omega) (by omega), ?_⟩
                        intro x379 ex379
                        have h379 := zg_at ex379
                        have hw1 := u372_0.1
                        have f29 : (1 ≤ x379.toInt ∧ x379.toInt ≤ 60) := by omega
                        refine ⟨fun c380 => ?_, fun c380 => ?_⟩
                        · have f30 : x379.toInt ≤ l6_372.toInt := i_le (a := x379.toInt) (b := l6_372.toInt) rfl rfl c380
                          exact hq 0 r3_0 r3_1 r3_2 v_eaters_13 v_reached_96 v_reachesEnd_96 r3_3 r3_4 r3_5 r3_6 r3_7 r3_8 r3_9 r3_10 v_follows_96 v_endsAfter_96 v_eaterOf_13 v_eaterNode_13 v_isGone_96 v_walk_96 v_states_372 v_stateSet_372 v_isTaken_372 v_classes_171 v_classTakes_171 v_classOf_171 v_leads_372 (by omega) (by omega) (by omega) (by omega) (by omega) (by omega) (by omega) (by omega) (by omega) (by omega) (by omega) (by omega) (by omega) (by exact fun _ => zLw_tb u372_0 hC8 (by omega) (by omega) (by omega)) (by exact u372_1)
                        · have f31 : l6_372.toInt < x379.toInt := i_nle (a := x379.toInt) (b := l6_372.toInt) rfl rfl c380
                          have j_393 : ∀ (s0_393 : Int64), (True) → w_X12_makeTable_393 p1 r3_0 r3_1 r3_2 v_eaters_13 v_reached_96 v_reachesEnd_96 r3_3 r3_4 r3_5 r3_6 r3_7 r3_8 r3_9 r3_10 v_follows_96 v_endsAfter_96 v_eaterOf_13 v_eaterNode_13 v_isGone_96 v_walk_96 v_classes_171 v_classTakes_171 v_classOf_171 Q (w_X12_makeTable_372 p1 Q r79_0 r3_0 r3_1 r3_2 v_eaters_13 v_reached_96 v_reachesEnd_96 r3_3 r3_4 r3_5 r3_6 r3_7 r3_8 r3_9 r3_10 v_follows_96 v_endsAfter_96 v_eaterOf_13 v_eaterNode_13 v_isGone_96 v_walk_96 v_classes_171 v_classTakes_171 v_classOf_171 n_372) s0_393 l6_372 v_states_372 v_stateSet_372 v_isTaken_372 v_leads_372 := by
                            intro s0_393 u393_0
                            unfold w_X12_makeTable_393
                            have j_398 : ∀ n_398 : Nat, ∀ (l7_398 : Int64) (l9_398 : Int32), l9_398.toInt ≤ v_eaters_13.toInt → 0 ≤ l9_398.toInt → (True) → ((-1) * l9_398.toInt + 61).toNat < n_398 → w_X12_makeTable_398 p1 r3_0 r3_1 r3_2 v_eaters_13 v_reached_96 v_reachesEnd_96 r3_3 r3_4 r3_5 r3_6 r3_7 r3_8 r3_9 r3_10 v_follows_96 v_endsAfter_96 v_eaterOf_13 v_eaterNode_13 v_isGone_96 v_walk_96 v_classes_171 v_classTakes_171 v_classOf_171 Q (w_X12_makeTable_372 p1 Q r79_0 r3_0 r3_1 r3_2 v_eaters_13 v_reached_96 v_reachesEnd_96 r3_3 r3_4 r3_5 r3_6 r3_7 r3_8 r3_9 r3_10 v_follows_96 v_endsAfter_96 v_eaterOf_13 v_eaterNode_13 v_isGone_96 v_walk_96 v_classes_171 v_classTakes_171 v_classOf_171 n_372) l6_372 v_states_372 v_stateSet_372 v_isTaken_372 v_leads_372 n_398 l7_398 l9_398 := by
                              intro n_398
                              induction n_398 with
                              | zero =>
                                intro l7_398 l9_398 f32 f33 u398_0 hm_398
                                exfalso; omega
                              | succ n_398 ih_398 =>
                                intro l7_398 l9_398 f32 f33 u398_0 hm_398
                                unfold w_X12_makeTable_398
                                unfold w_X12_makeTable_398B
                                have j_457 : ((v_eaters_13.toInt ≤ l9_398.toInt) ∨ (l9_398.toInt + 1 ≤ v_eaters_13.toInt ∧ l6_372.toInt ≤ 0)) → (True) → w_X12_makeTable_457 p1 r3_0 r3_1 r3_2 v_eaters_13 v_reached_96 v_reachesEnd_96 r3_3 r3_4 r3_5 r3_6 r3_7 r3_8 r3_9 r3_10 v_follows_96 v_endsAfter_96 v_eaterOf_13 v_eaterNode_13 v_isGone_96 v_walk_96 v_classes_171 v_classTakes_171 v_classOf_171 Q (w_X12_makeTable_372 p1 Q r79_0 r3_0 r3_1 r3_2 v_eaters_13 v_reached_96 v_reachesEnd_96 r3_3 r3_4 r3_5 r3_6 r3_7 r3_8 r3_9 r3_10 v_follows_96 v_endsAfter_96 v_eaterOf_13 v_eaterNode_13 v_isGone_96 v_walk_96 v_classes_171 v_classTakes_171 v_classOf_171 n_372) l6_372 l7_398 v_states_372 v_stateSet_372 v_isTaken_372 v_leads_372 := by
                                  intro f34 u457_0
                                  unfold w_X12_makeTable_457
                                  have j_460 : ∀ n_460 : Nat, ∀ (l9_460 : Int32) (v_states_460 : Nat → Int32) (v_stateSet_460 : Nat → Int64) (v_isTaken_460 : Nat → Bool) (v_leads_460 : Nat → Int32), 0 ≤ l9_460.toInt → l9_460.toInt ≤ 260 → (zLw v_states_460 v_classes_171 v_leads_460 p1.toInt l6_372.toInt l9_460.toInt) → (zTf v_states v_classes v_leads v_classOf v_states_460 v_classes_171 v_leads_460 v_classOf_171 p1.toInt) → ((-1) * l9_460.toInt + 500).toNat < n_460 → w_X12_makeTable_460 p1 r3_0 r3_1 r3_2 v_eaters_13 v_reached_96 v_reachesEnd_96 r3_3 r3_4 r3_5 r3_6 r3_7 r3_8 r3_9 r3_10 v_follows_96 v_endsAfter_96 v_eaterOf_13 v_eaterNode_13 v_isGone_96 v_walk_96 v_classes_171 v_classTakes_171 v_classOf_171 Q (w_X12_makeTable_372 p1 Q r79_0 r3_0 r3_1 r3_2 v_eaters_13 v_reached_96 v_reachesEnd_96 r3_3 r3_4 r3_5 r3_6 r3_7 r3_8 r3_9 r3_10 v_follows_96 v_endsAfter_96 v_eaterOf_13 v_eaterNode_13 v_isGone_96 v_walk_96 v_classes_171 v_classTakes_171 v_classOf_171 n_372) l6_372 l7_398 n_460 l9_460 v_states_460 v_stateSet_460 v_isTaken_460 v_leads_460 := by
                                    intro n_460
                                    induction n_460 with
                                    | zero =>
                                      intro l9_460 v_states_460 v_stateSet_460 v_isTaken_460 v_leads_460 f35 f36 u460_0 u460_1 hm_460
                                      exfalso; omega
                                    | succ n_460 ih_460 =>
                                      intro l9_460 v_states_460 v_stateSet_460 v_isTaken_460 v_leads_460 f35 f36 u460_0 u460_1 hm_460
                                      unfold w_X12_makeTable_460
                                      unfold w_X12_makeTable_460B
                                      refine ⟨i_in (by omega) (by omega), ?_⟩
                                      intro x467 ex467
                                      have h467 := zg_at ex467
                                      have f37 : (0 ≤ x467.toInt ∧ x467.toInt ≤ 260) := by omega
                                      refine ⟨fun c468 => ?_, fun c468 => ?_⟩
                                      · have f38 : x467.toInt ≤ l9_460.toInt := i_le (a := x467.toInt) (b := l9_460.toInt) rfl rfl c468
                                        intro x669 ex669
                                        have f39 : x669.toInt = l6_372.toInt + 1 := i_add (a := l6_372.toInt) (b := 1) ex669 rfl rfl (by omega) (by omega)
                                        exact ih_372 x669 v_states_460 v_stateSet_460 v_isTaken_460 v_leads_460  (by omega) (by omega) (by first | exact zLw_0 eg347 rfl rfl (by decide) (by decide) | exact zLw_r u460_0 (by omega) (by omega) (by decide)) (by first | exact zTf_st u171_1 eg347 rfl (by omega) | exact u460_1) (by have h8_0 := i_rng l6_372; have h8_1 := i_rng x669; omega)
                                      · have f40 : l9_460.toInt < x467.toInt := i_nle (a := x467.toInt) (b := l9_460.toInt) rfl rfl c468
                                        intro x481 ex481
                                        have f41 : x481.toInt = 500 * p1.toInt := i_mul (a := 500) (b := p1.toInt) ex481 rfl rfl (by omega) (by omega)
                                        intro x484 ex484
                                        have f42 : x484.toInt = x481.toInt + l9_460.toInt := i_add (a := x481.toInt) (b := l9_460.toInt) ex484 rfl rfl (by omega) (by omega)
                                        refine ⟨i_in (by omega) (by omega), ?_⟩
                                        intro y485 ey485
                                        intro y486 ey486
                                        have j_492 : ∀ n_492 : Nat, ∀ (l12_492 : Int32), 1 ≤ l12_492.toInt → l12_492.toInt ≤ 60 → (zLw v_states_460 v_classes_171 v_leads_460 p1.toInt l6_372.toInt l9_460.toInt) → (l12_492.toInt ≤ zg v_states_460 p1.toInt) → ((-1) * l12_492.toInt + 61).toNat < n_492 → w_X12_makeTable_492 p1 r3_0 r3_1 r3_2 v_eaters_13 v_reached_96 v_reachesEnd_96 r3_3 r3_4 r3_5 r3_6 r3_7 r3_8 r3_9 r3_10 v_follows_96 v_endsAfter_96 v_eaterOf_13 v_eaterNode_13 v_isGone_96 v_walk_96 v_classes_171 v_classTakes_171 v_classOf_171 l6_372 Q (w_X12_makeTable_372 p1 Q r79_0 r3_0 r3_1 r3_2 v_eaters_13 v_reached_96 v_reachesEnd_96 r3_3 r3_4 r3_5 r3_6 r3_7 r3_8 r3_9 r3_10 v_follows_96 v_endsAfter_96 v_eaterOf_13 v_eaterNode_13 v_isGone_96 v_walk_96 v_classes_171 v_classTakes_171 v_classOf_171 n_372) (w_X12_makeTable_460 p1 r3_0 r3_1 r3_2 v_eaters_13 v_reached_96 v_reachesEnd_96 r3_3 r3_4 r3_5 r3_6 r3_7 r3_8 r3_9 r3_10 v_follows_96 v_endsAfter_96 v_eaterOf_13 v_eaterNode_13 v_isGone_96 v_walk_96 v_classes_171 v_classTakes_171 v_classOf_171 Q (w_X12_makeTable_372 p1 Q r79_0 r3_0 r3_1 r3_2 v_eaters_13 v_reached_96 v_reachesEnd_96 r3_3 r3_4 r3_5 r3_6 r3_7 r3_8 r3_9 r3_10 v_follows_96 v_endsAfter_96 v_eaterOf_13 v_eaterNode_13 v_isGone_96 v_walk_96 v_classes_171 v_classTakes_171 v_classOf_171 n_372) l6_372 l7_398 n_460) l9_460 y486 v_states_460 v_stateSet_460 v_isTaken_460 v_leads_460 n_492 l12_492 := by
                                          intro n_492
                                          induction n_492 with
                                          | zero =>
                                            intro l12_492 f43 f44 u492_0 u492_1 hm_492
                                            exfalso; omega
                                          | succ n_492 ih_492 =>
                                            intro l12_492 f43 f44 u492_0 u492_1 hm_492
                                            unfold w_X12_makeTable_492
                                            unfold w_X12_makeTable_492B
                                            refine ⟨i_in (by omega) (by omega), ?_⟩
                                            intro x499 ex499
                                            have h499 := zg_at ex499
                                            have hw2 := u492_0.1
                                            have f45 : (1 ≤ x499.toInt ∧ x499.toInt ≤ 60) := by omega
                                            have j_527 : ((x499.toInt ≤ l12_492.toInt) ∨ (l12_492.toInt + 1 ≤ x499.toInt)) → (zLw v_states_460 v_classes_171 v_leads_460 p1.toInt l6_372.toInt l9_460.toInt) → (l12_492.toInt ≤ zg v_states_460 p1.toInt) → w_X12_makeTable_527 p1 r3_0 r3_1 r3_2 v_eaters_13 v_reached_96 v_reachesEnd_96 r3_3 r3_4 r3_5 r3_6 r3_7 r3_8 r3_9 r3_10 v_follows_96 v_endsAfter_96 v_eaterOf_13 v_eaterNode_13 v_isGone_96 v_walk_96 v_classes_171 v_classTakes_171 v_classOf_171 l6_372 Q (w_X12_makeTable_372 p1 Q r79_0 r3_0 r3_1 r3_2 v_eaters_13 v_reached_96 v_reachesEnd_96 r3_3 r3_4 r3_5 r3_6 r3_7 r3_8 r3_9 r3_10 v_follows_96 v_endsAfter_96 v_eaterOf_13 v_eaterNode_13 v_isGone_96 v_walk_96 v_classes_171 v_classTakes_171 v_classOf_171 n_372) (w_X12_makeTable_460 p1 r3_0 r3_1 r3_2 v_eaters_13 v_reached_96 v_reachesEnd_96 r3_3 r3_4 r3_5 r3_6 r3_7 r3_8 r3_9 r3_10 v_follows_96 v_endsAfter_96 v_eaterOf_13 v_eaterNode_13 v_isGone_96 v_walk_96 v_classes_171 v_classTakes_171 v_classOf_171 Q (w_X12_makeTable_372 p1 Q r79_0 r3_0 r3_1 r3_2 v_eaters_13 v_reached_96 v_reachesEnd_96 r3_3 r3_4 r3_5 r3_6 r3_7 r3_8 r3_9 r3_10 v_follows_96 v_endsAfter_96 v_eaterOf_13 v_eaterNode_13 v_isGone_96 v_walk_96 v_classes_171 v_classTakes_171 v_classOf_171 n_372) l6_372 l7_398 n_460) l9_460 y486 l12_492 v_states_460 v_stateSet_460 v_isTaken_460 v_leads_460 := by
                                              intro f46 u527_0 u527_1
                                              unfold w_X12_makeTable_527
                                              refine ⟨i_in (by omega) (by omega), ?_⟩
                                              intro x534 ex534
                                              have f47 : x534.toInt = x499.toInt := congrArg Int32.toInt (ex534.trans ex499.symm)
                                              have h534 := zg_at ex534
                                              have hw3 := u527_0.1
                                              have f48 : (1 ≤ x534.toInt ∧ x534.toInt ≤ 60) := by omega
                                              have j_641 : ∀ (v_states_641 : Nat → Int32) (v_stateSet_641 : Nat → Int64) (v_isTaken_641 : Nat → Bool), (zLw v_states_641 v_classes_171 v_leads_460 p1.toInt l6_372.toInt l9_460.toInt) → (0 ≤ l12_492.toInt ∧ l12_492.toInt < zg v_states_641 p1.toInt) → (zTf v_states v_classes v_leads v_classOf v_states_641 v_classes_171 v_leads_460 v_classOf_171 p1.toInt) → w_X12_makeTable_641 p1 l6_372 Q (w_X12_makeTable_372 p1 Q r79_0 r3_0 r3_1 r3_2 v_eaters_13 v_reached_96 v_reachesEnd_96 r3_3 r3_4 r3_5 r3_6 r3_7 r3_8 r3_9 r3_10 v_follows_96 v_endsAfter_96 v_eaterOf_13 v_eaterNode_13 v_isGone_96 v_walk_96 v_classes_171 v_classTakes_171 v_classOf_171 n_372) (w_X12_makeTable_460 p1 r3_0 r3_1 r3_2 v_eaters_13 v_reached_96 v_reachesEnd_96 r3_3 r3_4 r3_5 r3_6 r3_7 r3_8 r3_9 r3_10 v_follows_96 v_endsAfter_96 v_eaterOf_13 v_eaterNode_13 v_isGone_96 v_walk_96 v_classes_171 v_classTakes_171 v_classOf_171 Q (w_X12_makeTable_372 p1 Q r79_0 r3_0 r3_1 r3_2 v_eaters_13 v_reached_96 v_reachesEnd_96 r3_3 r3_4 r3_5 r3_6 r3_7 r3_8 r3_9 r3_10 v_follows_96 v_endsAfter_96 v_eaterOf_13 v_eaterNode_13 v_isGone_96 v_walk_96 v_classes_171 v_classTakes_171 v_classOf_171 n_372) l6_372 l7_398 n_460) l9_460 l12_492 v_states_641 v_stateSet_641 v_isTaken_641 v_leads_460 := by
                                                intro v_states_641 v_stateSet_641 v_isTaken_641 u641_0 u641_1 u641_2
                                                unfold w_X12_makeTable_641
                                                intro x649 ex649
                                                have f49 : x649.toInt = 30500 * p1.toInt := i_mul (a := 30500) (b := p1.toInt) ex649 rfl rfl (by omega) (by omega)
                                                intro x655 ex655
                                                have f50 : x655.toInt = 500 * l6_372.toInt := i_mul (a := 500) (b := l6_372.toInt) ex655 rfl rfl (by omega) (by omega)
                                                intro x656 ex656
                                                have f51 : x656.toInt = x649.toInt + x655.toInt := i_add (a := x649.toInt) (b := x655.toInt) ex656 rfl rfl (by omega) (by omega)
                                                intro x659 ex659
                                                have f52 : x659.toInt = x656.toInt + l9_460.toInt := i_add (a := x656.toInt) (b := l9_460.toInt) ex659 rfl rfl (by omega) (by omega)
                                                refine ⟨i_in (by omega) (by omega), ?_⟩
                                                intro g662 eg662
                                                intro x663 ex663
                                                have f53 : x663.toInt = l9_460.toInt + 1 := i_add (a := l9_460.toInt) (b := 1) ex663 rfl rfl (by omega) (by omega)
                                                exact ih_460 x663 v_states_641 v_stateSet_641 v_isTaken_641 g662  (by omega) (by omega) (by first | exact zLw_c u372_0 (by decide) | exact zLw_s u641_0 eg662 u641_1 (by omega) (by omega) (by omega) (by omega) (by omega) (by omega)) (by first | exact u372_1 | exact zTf_ld u641_2 eg662 (by omega) (by omega)) (by have h8_0 := i_rng l9_460; have h8_1 := i_rng x663; omega)
                                              refine ⟨fun c535 => ?_, fun c535 => ?_⟩
                                              · have f54 : l12_492.toInt ≠ x534.toInt := i_ne (a := l12_492.toInt) (b := x534.toInt) rfl rfl c535
                                                exact j_641 v_states_460 v_stateSet_460 v_isTaken_460 (by first | exact zLw_st u527_0 eg640 rfl ⟨by omega, by omega⟩ | exact u527_0) (by first | exact ⟨by omega, by omega⟩ | (have h9 : zg g640 p1.toInt = x639.toInt := (by rw [eg640]; exact zg_eq); exact ⟨by omega, by omega⟩)) (by first | exact zTf_st u460_1 eg640 rfl (by omega) | exact u460_1)
                                              · have f55 : l12_492.toInt = x534.toInt := i_eq (a := l12_492.toInt) (b := x534.toInt) rfl rfl c535
                                                refine ⟨fun c542 => ?_, fun c542 => ?_⟩
                                                · have f56 : l12_492.toInt ≠ 60 := i_ne (a := l12_492.toInt) (b := 60) rfl rfl c542
                                                  intro x555 ex555
                                                  have f57 : x555.toInt = 61 * p1.toInt := i_mul (a := 61) (b := p1.toInt) ex555 rfl rfl (by omega) (by omega)
                                                  intro x558 ex558
                                                  have f58 : x558.toInt = x555.toInt + l12_492.toInt := i_add (a := x555.toInt) (b := l12_492.toInt) ex558 rfl rfl (by omega) (by omega)
                                                  refine ⟨i_in (by omega) (by omega), ?_⟩
                                                  intro g561 eg561
                                                  have j_568 : ∀ n_568 : Nat, ∀ (l13_568 : Int32) (l14_568 : Int32), 0 ≤ l14_568.toInt → l14_568.toInt ≤ v_eaters_13.toInt → 0 ≤ l13_568.toInt → l13_568.toInt ≤ 1 → (True) → ((-1) * l14_568.toInt + 2147483648).toNat < n_568 → w_X12_makeTable_568 p1 v_eaters_13 v_endsAfter_96 l6_372 Q (w_X12_makeTable_372 p1 Q r79_0 r3_0 r3_1 r3_2 v_eaters_13 v_reached_96 v_reachesEnd_96 r3_3 r3_4 r3_5 r3_6 r3_7 r3_8 r3_9 r3_10 v_follows_96 v_endsAfter_96 v_eaterOf_13 v_eaterNode_13 v_isGone_96 v_walk_96 v_classes_171 v_classTakes_171 v_classOf_171 n_372) (w_X12_makeTable_460 p1 r3_0 r3_1 r3_2 v_eaters_13 v_reached_96 v_reachesEnd_96 r3_3 r3_4 r3_5 r3_6 r3_7 r3_8 r3_9 r3_10 v_follows_96 v_endsAfter_96 v_eaterOf_13 v_eaterNode_13 v_isGone_96 v_walk_96 v_classes_171 v_classTakes_171 v_classOf_171 Q (w_X12_makeTable_372 p1 Q r79_0 r3_0 r3_1 r3_2 v_eaters_13 v_reached_96 v_reachesEnd_96 r3_3 r3_4 r3_5 r3_6 r3_7 r3_8 r3_9 r3_10 v_follows_96 v_endsAfter_96 v_eaterOf_13 v_eaterNode_13 v_isGone_96 v_walk_96 v_classes_171 v_classTakes_171 v_classOf_171 n_372) l6_372 l7_398 n_460) l9_460 y486 l12_492 v_states_460 g561 v_isTaken_460 v_leads_460 n_568 l13_568 l14_568 := by
                                                    intro n_568
                                                    induction n_568 with
                                                    | zero =>
                                                      intro l13_568 l14_568 f59 f60 f61 f62 u568_0 hm_568
                                                      exfalso; omega
                                                    | succ n_568 ih_568 =>
                                                      intro l13_568 l14_568 f59 f60 f61 f62 u568_0 hm_568
                                                      unfold w_X12_makeTable_568
                                                      unfold w_X12_makeTable_568B
                                                      refine ⟨fun c574 => ?_, fun c574 => ?_⟩
                                                      · have f63 : v_eaters_13.toInt ≤ l14_568.toInt := i_le (a := v_eaters_13.toInt) (b := l14_568.toInt) rfl rfl c574
                                                        intro x624 ex624
                                                        have f64 : x624.toInt = 61 * p1.toInt := i_mul (a := 61) (b := p1.toInt) ex624 rfl rfl (by omega) (by omega)
                                                        intro x627 ex627
                                                        have f65 : x627.toInt = x624.toInt + l12_492.toInt := i_add (a := x624.toInt) (b := l12_492.toInt) ex627 rfl rfl (by omega) (by omega)
                                                        refine ⟨i_in (by omega) (by omega), ?_⟩
                                                        intro g630 eg630
                                                        refine ⟨i_in (by omega) (by omega), ?_⟩
                                                        intro x637 ex637
                                                        have f66 : x637.toInt = x499.toInt := congrArg Int32.toInt (ex637.trans ex499.symm)
                                                        have h637 := zg_at ex637
                                                        have f67 : (1 ≤ x637.toInt ∧ x637.toInt ≤ 59) := by omega
                                                        intro x639 ex639
                                                        have f68 : x639.toInt = x637.toInt + 1 := i_add (a := x637.toInt) (b := 1) ex639 rfl rfl (by omega) (by omega)
                                                        refine ⟨i_in (by omega) (by omega), ?_⟩
                                                        intro g640 eg640
                                                        exact j_641 g640 g561 g630 (by first | exact zLw_st u527_0 eg640 rfl ⟨by omega, by omega⟩ | exact u527_0) (by first | exact ⟨by omega, by omega⟩ | (have h9 : zg g640 p1.toInt = x639.toInt := (by rw [eg640]; exact zg_eq); exact ⟨by omega, by omega⟩)) (by first | exact zTf_st u460_1 eg640 rfl (by omega) | exact u460_1)
                                                      · have f69 : l14_568.toInt < v_eaters_13.toInt := i_nle (a := v_eaters_13.toInt) (b := l14_568.toInt) rfl rfl c574
                                                        have j_609 : ∀ (s0_609 : Int32), ((s0_609.toInt = 0 ∧ l13_568.toInt = 0) ∨ (s0_609.toInt = 1)) → (True) → w_X12_makeTable_609 Q (w_X12_makeTable_372 p1 Q r79_0 r3_0 r3_1 r3_2 v_eaters_13 v_reached_96 v_reachesEnd_96 r3_3 r3_4 r3_5 r3_6 r3_7 r3_8 r3_9 r3_10 v_follows_96 v_endsAfter_96 v_eaterOf_13 v_eaterNode_13 v_isGone_96 v_walk_96 v_classes_171 v_classTakes_171 v_classOf_171 n_372) (w_X12_makeTable_460 p1 r3_0 r3_1 r3_2 v_eaters_13 v_reached_96 v_reachesEnd_96 r3_3 r3_4 r3_5 r3_6 r3_7 r3_8 r3_9 r3_10 v_follows_96 v_endsAfter_96 v_eaterOf_13 v_eaterNode_13 v_isGone_96 v_walk_96 v_classes_171 v_classTakes_171 v_classOf_171 Q (w_X12_makeTable_372 p1 Q r79_0 r3_0 r3_1 r3_2 v_eaters_13 v_reached_96 v_reachesEnd_96 r3_3 r3_4 r3_5 r3_6 r3_7 r3_8 r3_9 r3_10 v_follows_96 v_endsAfter_96 v_eaterOf_13 v_eaterNode_13 v_isGone_96 v_walk_96 v_classes_171 v_classTakes_171 v_classOf_171 n_372) l6_372 l7_398 n_460) (w_X12_makeTable_568 p1 v_eaters_13 v_endsAfter_96 l6_372 Q (w_X12_makeTable_372 p1 Q r79_0 r3_0 r3_1 r3_2 v_eaters_13 v_reached_96 v_reachesEnd_96 r3_3 r3_4 r3_5 r3_6 r3_7 r3_8 r3_9 r3_10 v_follows_96 v_endsAfter_96 v_eaterOf_13 v_eaterNode_13 v_isGone_96 v_walk_96 v_classes_171 v_classTakes_171 v_classOf_171 n_372) (w_X12_makeTable_460 p1 r3_0 r3_1 r3_2 v_eaters_13 v_reached_96 v_reachesEnd_96 r3_3 r3_4 r3_5 r3_6 r3_7 r3_8 r3_9 r3_10 v_follows_96 v_endsAfter_96 v_eaterOf_13 v_eaterNode_13 v_isGone_96 v_walk_96 v_classes_171 v_classTakes_171 v_classOf_171 Q (w_X12_makeTable_372 p1 Q r79_0 r3_0 r3_1 r3_2 v_eaters_13 v_reached_96 v_reachesEnd_96 r3_3 r3_4 r3_5 r3_6 r3_7 r3_8 r3_9 r3_10 v_follows_96 v_endsAfter_96 v_eaterOf_13 v_eaterNode_13 v_isGone_96 v_walk_96 v_classes_171 v_classTakes_171 v_classOf_171 n_372) l6_372 l7_398 n_460) l9_460 y486 l12_492 v_states_460 g561 v_isTaken_460 v_leads_460 n_568) s0_609 l14_568 := by
                                                          intro s0_609 f70 u609_0
                                                          unfold w_X12_makeTable_609
                                                          intro x611 ex611
                                                          have f71 : x611.toInt = l14_568.toInt + 1 := i_add (a := l14_568.toInt) (b := 1) ex611 rfl rfl (by omega) (by omega)
                                                          exact ih_568 s0_609 x611  (by omega) (by omega) (by omega) (by omega) (by trivial) (by have h8_0 := i_rng l14_568; have h8_1 := i_rng x611; omega)
                                                        have j_604 : (True) → w_X12_makeTable_604 Q (w_X12_makeTable_372 p1 Q r79_0 r3_0 r3_1 r3_2 v_eaters_13 v_reached_96 v_reachesEnd_96 r3_3 r3_4 r3_5 r3_6 r3_7 r3_8 r3_9 r3_10 v_follows_96 v_endsAfter_96 v_eaterOf_13 v_eaterNode_13 v_isGone_96 v_walk_96 v_classes_171 v_classTakes_171 v_classOf_171 n_372) (w_X12_makeTable_460 p1 r3_0 r3_1 r3_2 v_eaters_13 v_reached_96 v_reachesEnd_96 r3_3 r3_4 r3_5 r3_6 r3_7 r3_8 r3_9 r3_10 v_follows_96 v_endsAfter_96 v_eaterOf_13 v_eaterNode_13 v_isGone_96 v_walk_96 v_classes_171 v_classTakes_171 v_classOf_171 Q (w_X12_makeTable_372 p1 Q r79_0 r3_0 r3_1 r3_2 v_eaters_13 v_reached_96 v_reachesEnd_96 r3_3 r3_4 r3_5 r3_6 r3_7 r3_8 r3_9 r3_10 v_follows_96 v_endsAfter_96 v_eaterOf_13 v_eaterNode_13 v_isGone_96 v_walk_96 v_classes_171 v_classTakes_171 v_classOf_171 n_372) l6_372 l7_398 n_460) (w_X12_makeTable_568 p1 v_eaters_13 v_endsAfter_96 l6_372 Q (w_X12_makeTable_372 p1 Q r79_0 r3_0 r3_1 r3_2 v_eaters_13 v_reached_96 v_reachesEnd_96 r3_3 r3_4 r3_5 r3_6 r3_7 r3_8 r3_9 r3_10 v_follows_96 v_endsAfter_96 v_eaterOf_13 v_eaterNode_13 v_isGone_96 v_walk_96 v_classes_171 v_classTakes_171 v_classOf_171 n_372) (w_X12_makeTable_460 p1 r3_0 r3_1 r3_2 v_eaters_13 v_reached_96 v_reachesEnd_96 r3_3 r3_4 r3_5 r3_6 r3_7 r3_8 r3_9 r3_10 v_follows_96 v_endsAfter_96 v_eaterOf_13 v_eaterNode_13 v_isGone_96 v_walk_96 v_classes_171 v_classTakes_171 v_classOf_171 Q (w_X12_makeTable_372 p1 Q r79_0 r3_0 r3_1 r3_2 v_eaters_13 v_reached_96 v_reachesEnd_96 r3_3 r3_4 r3_5 r3_6 r3_7 r3_8 r3_9 r3_10 v_follows_96 v_endsAfter_96 v_eaterOf_13 v_eaterNode_13 v_isGone_96 v_walk_96 v_classes_171 v_classTakes_171 v_classOf_171 n_372) l6_372 l7_398 n_460) l9_460 y486 l12_492 v_states_460 g561 v_isTaken_460 v_leads_460 n_568) l14_568 := by
                                                          intro u604_0
                                                          unfold w_X12_makeTable_604
                                                          exact j_609 1 (by omega) (by trivial)
                                                        refine ⟨fun c579 => ?_, fun c579 => ?_⟩
                                                        · have f72 : l13_568.toInt ≠ 0 := i_ne (a := l13_568.toInt) (b := 0) rfl rfl c579
                                                          exact j_604  (by trivial)
                                                        · have f73 : l13_568.toInt = 0 := i_eq (a := l13_568.toInt) (b := 0) rfl rfl c579
                                                          intro y586 ey586
                                                          intro y588 ey588
                                                          intro x590 ex590
                                                          have f74 : (0 ≤ x590.toInt + 1 ∧ x590.toInt ≤ 1) := by have h9 := i_cmp ex590; omega
                                                          have j_608 : (True) → w_X12_makeTable_608 Q (w_X12_makeTable_372 p1 Q r79_0 r3_0 r3_1 r3_2 v_eaters_13 v_reached_96 v_reachesEnd_96 r3_3 r3_4 r3_5 r3_6 r3_7 r3_8 r3_9 r3_10 v_follows_96 v_endsAfter_96 v_eaterOf_13 v_eaterNode_13 v_isGone_96 v_walk_96 v_classes_171 v_classTakes_171 v_classOf_171 n_372) (w_X12_makeTable_460 p1 r3_0 r3_1 r3_2 v_eaters_13 v_reached_96 v_reachesEnd_96 r3_3 r3_4 r3_5 r3_6 r3_7 r3_8 r3_9 r3_10 v_follows_96 v_endsAfter_96 v_eaterOf_13 v_eaterNode_13 v_isGone_96 v_walk_96 v_classes_171 v_classTakes_171 v_classOf_171 Q (w_X12_makeTable_372 p1 Q r79_0 r3_0 r3_1 r3_2 v_eaters_13 v_reached_96 v_reachesEnd_96 r3_3 r3_4 r3_5 r3_6 r3_7 r3_8 r3_9 r3_10 v_follows_96 v_endsAfter_96 v_eaterOf_13 v_eaterNode_13 v_isGone_96 v_walk_96 v_classes_171 v_classTakes_171 v_classOf_171 n_372) l6_372 l7_398 n_460) (w_X12_makeTable_568 p1 v_eaters_13 v_endsAfter_96 l6_372 Q (w_X12_makeTable_372 p1 Q r79_0 r3_0 r3_1 r3_2 v_eaters_13 v_reached_96 v_reachesEnd_96 r3_3 r3_4 r3_5 r3_6 r3_7 r3_8 r3_9 r3_10 v_follows_96 v_endsAfter_96 v_eaterOf_13 v_eaterNode_13 v_isGone_96 v_walk_96 v_classes_171 v_classTakes_171 v_classOf_171 n_372) (w_X12_makeTable_460 p1 r3_0 r3_1 r3_2 v_eaters_13 v_reached_96 v_reachesEnd_96 r3_3 r3_4 r3_5 r3_6 r3_7 r3_8 r3_9 r3_10 v_follows_96 v_endsAfter_96 v_eaterOf_13 v_eaterNode_13 v_isGone_96 v_walk_96 v_classes_171 v_classTakes_171 v_classOf_171 Q (w_X12_makeTable_372 p1 Q r79_0 r3_0 r3_1 r3_2 v_eaters_13 v_reached_96 v_reachesEnd_96 r3_3 r3_4 r3_5 r3_6 r3_7 r3_8 r3_9 r3_10 v_follows_96 v_endsAfter_96 v_eaterOf_13 v_eaterNode_13 v_isGone_96 v_walk_96 v_classes_171 v_classTakes_171 v_classOf_171 n_372) l6_372 l7_398 n_460) l9_460 y486 l12_492 v_states_460 g561 v_isTaken_460 v_leads_460 n_568) l14_568 := by
                                                            intro u608_0
                                                            unfold w_X12_makeTable_608
                                                            exact j_609 0 (by omega) (by trivial)
                                                          refine ⟨fun c591 => ?_, fun c591 => ?_⟩
                                                          · have f75 : x590.toInt ≠ 0 := i_ne (a := x590.toInt) (b := 0) rfl rfl c591
                                                            exact j_608  (by trivial)
                                                          · have f76 : x590.toInt = 0 := i_eq (a := x590.toInt) (b := 0) rfl rfl c591
                                                            refine ⟨i_in (by omega) (by omega), ?_⟩
                                                            intro x600 ex600
                                                            have f77 : (0 ≤ x600.toInt ∧ x600.toInt ≤ 1) := i_bz ex600
                                                            refine ⟨fun c601 => ?_, fun c601 => ?_⟩
                                                            · have f78 : x600.toInt = 0 := i_eq (a := x600.toInt) (b := 0) rfl rfl c601
                                                              exact j_608  (by trivial)
                                                            · have f79 : x600.toInt ≠ 0 := i_ne (a := x600.toInt) (b := 0) rfl rfl c601
                                                              exact j_604  (by trivial)
                                                  exact ⟨(2147483648 : Int).toNat + 1, j_568   ((2147483648 : Int).toNat + 1) 0 0  (by omega) (by omega) (by omega) (by omega) (by trivial) (by omega)⟩
                                                · have f80 : l12_492.toInt = 60 := i_eq (a := l12_492.toInt) (b := 60) rfl rfl c542
                                                  exact hq (-7) r3_0 r3_1 r3_2 v_eaters_13 v_reached_96 v_reachesEnd_96 r3_3 r3_4 r3_5 r3_6 r3_7 r3_8 r3_9 r3_10 v_follows_96 v_endsAfter_96 v_eaterOf_13 v_eaterNode_13 v_isGone_96 v_walk_96 v_states_460 v_stateSet_460 v_isTaken_460 v_classes_171 v_classTakes_171 v_classOf_171 v_leads_460 (by omega) (by omega) (by omega) (by omega) (by omega) (by omega) (by omega) (by omega) (by omega) (by omega) (by omega) (by omega) (by omega) (by exact fun z => absurd z (by decide)) (by exact u460_1)
                                            refine ⟨fun c500 => ?_, fun c500 => ?_⟩
                                            · have f81 : x499.toInt ≤ l12_492.toInt := i_le (a := x499.toInt) (b := l12_492.toInt) rfl rfl c500
                                              exact j_527  (by omega) (by exact u492_0) (by first | exact u492_1 | omega)
                                            · have f82 : l12_492.toInt < x499.toInt := i_nle (a := x499.toInt) (b := l12_492.toInt) rfl rfl c500
                                              intro x510 ex510
                                              have f83 : x510.toInt = 61 * p1.toInt := i_mul (a := 61) (b := p1.toInt) ex510 rfl rfl (by omega) (by omega)
                                              intro x513 ex513
                                              have f84 : x513.toInt = x510.toInt + l12_492.toInt := i_add (a := x510.toInt) (b := l12_492.toInt) ex513 rfl rfl (by omega) (by omega)
                                              refine ⟨i_in (by omega) (by omega), ?_⟩
                                              intro y514 ey514
                                              intro x517 ex517
                                              have f85 : (0 ≤ x517.toInt + 1 ∧ x517.toInt ≤ 1) := by have h9 := i_cmp ex517; omega
                                              refine ⟨fun c518 => ?_, fun c518 => ?_⟩
                                              · have f86 : x517.toInt = 0 := i_eq (a := x517.toInt) (b := 0) rfl rfl c518
                                                exact j_527  (by omega) (by exact u492_0) (by first | exact u492_1 | omega)
                                              · have f87 : x517.toInt ≠ 0 := i_ne (a := x517.toInt) (b := 0) rfl rfl c518
                                                intro x521 ex521
                                                have f88 : x521.toInt = l12_492.toInt + 1 := i_add (a := l12_492.toInt) (b := 1) ex521 rfl rfl (by omega) (by omega)
                                                exact ih_492 x521  (by omega) (by omega) (by first | assumption | exact u460_0) (by first | omega | (have h9 := u460_0.1; omega)) (by have h8_0 := i_rng l12_492; have h8_1 := i_rng x521; omega)
                                        exact ⟨(60 : Int).toNat + 1, j_492   ((60 : Int).toNat + 1) 1  (by omega) (by omega) (by first | assumption | exact u460_0) (by first | omega | (have h9 := u460_0.1; omega)) (by omega)⟩
                                  exact ⟨(500 : Int).toNat + 1, j_460   ((500 : Int).toNat + 1) 0 v_states_372 v_stateSet_372 v_isTaken_372 v_leads_372  (by omega) (by omega) (by first | exact zLw_c u372_0 (by decide) | exact zLw_s u641_0 eg662 u641_1 (by omega) (by omega) (by omega) (by omega) (by omega) (by omega)) (by first | exact u372_1 | exact zTf_ld u641_2 eg662 (by omega) (by omega)) (by omega)⟩
                                refine ⟨fun c404 => ?_, fun c404 => ?_⟩
                                · have f89 : v_eaters_13.toInt ≤ l9_398.toInt := i_le (a := v_eaters_13.toInt) (b := l9_398.toInt) rfl rfl c404
                                  exact j_457  (by omega) (by trivial)
                                · have f90 : l9_398.toInt < v_eaters_13.toInt := i_nle (a := v_eaters_13.toInt) (b := l9_398.toInt) rfl rfl c404
                                  refine ⟨fun c409 => ?_, fun c409 => ?_⟩
                                  · have f91 : l6_372.toInt ≤ 0 := i_le (a := l6_372.toInt) (b := 0) rfl rfl c409
                                    exact j_457  (by omega) (by trivial)
                                  · have f92 : 0 < l6_372.toInt := i_nle (a := l6_372.toInt) (b := 0) rfl rfl c409
                                    intro x419 ex419
                                    have f93 : x419.toInt = 61 * p1.toInt := i_mul (a := 61) (b := p1.toInt) ex419 rfl rfl (by omega) (by omega)
                                    intro x422 ex422
                                    have f94 : x422.toInt = x419.toInt + l6_372.toInt := i_add (a := x419.toInt) (b := l6_372.toInt) ex422 rfl rfl (by omega) (by omega)
                                    refine ⟨i_in (by omega) (by omega), ?_⟩
                                    intro y423 ey423
                                    intro y426 ey426
                                    intro y428 ey428
                                    intro x430 ex430
                                    have f95 : (0 ≤ x430.toInt + 1 ∧ x430.toInt ≤ 1) := by have h9 := i_cmp ex430; omega
                                    have j_449 : ∀ (s0_449 : Int64), (True) → w_X12_makeTable_449 Q (w_X12_makeTable_372 p1 Q r79_0 r3_0 r3_1 r3_2 v_eaters_13 v_reached_96 v_reachesEnd_96 r3_3 r3_4 r3_5 r3_6 r3_7 r3_8 r3_9 r3_10 v_follows_96 v_endsAfter_96 v_eaterOf_13 v_eaterNode_13 v_isGone_96 v_walk_96 v_classes_171 v_classTakes_171 v_classOf_171 n_372) (w_X12_makeTable_398 p1 r3_0 r3_1 r3_2 v_eaters_13 v_reached_96 v_reachesEnd_96 r3_3 r3_4 r3_5 r3_6 r3_7 r3_8 r3_9 r3_10 v_follows_96 v_endsAfter_96 v_eaterOf_13 v_eaterNode_13 v_isGone_96 v_walk_96 v_classes_171 v_classTakes_171 v_classOf_171 Q (w_X12_makeTable_372 p1 Q r79_0 r3_0 r3_1 r3_2 v_eaters_13 v_reached_96 v_reachesEnd_96 r3_3 r3_4 r3_5 r3_6 r3_7 r3_8 r3_9 r3_10 v_follows_96 v_endsAfter_96 v_eaterOf_13 v_eaterNode_13 v_isGone_96 v_walk_96 v_classes_171 v_classTakes_171 v_classOf_171 n_372) l6_372 v_states_372 v_stateSet_372 v_isTaken_372 v_leads_372 n_398) s0_449 l9_398 := by
                                      intro s0_449 u449_0
                                      unfold w_X12_makeTable_449
                                      intro x451 ex451
                                      have f96 : x451.toInt = l9_398.toInt + 1 := i_add (a := l9_398.toInt) (b := 1) ex451 rfl rfl (by omega) (by omega)
                                      exact ih_398 s0_449 x451  (by omega) (by omega) (by trivial) (by have h8_0 := i_rng l9_398; have h8_1 := i_rng x451; omega)
                                    refine ⟨fun c431 => ?_, fun c431 => ?_⟩
                                    · have f97 : x430.toInt ≠ 0 := i_ne (a := x430.toInt) (b := 0) rfl rfl c431
                                      exact j_449 l7_398 (by trivial)
                                    · have f98 : x430.toInt = 0 := i_eq (a := x430.toInt) (b := 0) rfl rfl c431
                                      refine ⟨i_in (by omega) (by omega), ?_⟩
                                      intro y442 ey442
                                      intro y443 ey443
                                      exact j_449 y443 (by trivial)
                            exact ⟨(61 : Int).toNat + 1, j_398   ((61 : Int).toNat + 1) s0_393 0  (by omega) (by omega) (by trivial) (by omega)⟩
                          refine ⟨fun c385 => ?_, fun c385 => ?_⟩
                          · have f99 : l6_372.toInt ≠ 0 := i_ne (a := l6_372.toInt) (b := 0) rfl rfl c385
                            exact j_393 0 (by trivial)
                          · have f100 : l6_372.toInt = 0 := i_eq (a := l6_372.toInt) (b := 0) rfl rfl c385
                            exact j_393 r79_0 (by trivial)
                    exact ⟨(60 : Int).toNat + 1, j_372   ((60 : Int).toNat + 1) 0 g347 g357 g368 v_leads  (by omega) (by omega) (by first | exact zLw_0 eg347 rfl rfl (by decide) (by decide) | exact zLw_r u460_0 (by omega) (by omega) (by decide)) (by first | exact zTf_st u171_1 eg347 rfl (by omega) | exact u460_1) (by omega)⟩
                  · have f101 : l6_171.toInt < v_boundMany.toInt := i_nle (a := v_boundMany.toInt) (b := l6_171.toInt) rfl rfl c177
                    have j_186 : ∀ n_186 : Nat, ∀ (l7_186 : Int64) (l9_186 : Int32), l9_186.toInt ≤ v_eaters_13.toInt → 0 ≤ l9_186.toInt → (True) → ((-1) * l9_186.toInt + 2147483648).toNat < n_186 → w_X12_makeTable_186 p1 v_sort v_value v_parts v_firstPart v_inCase v_partBegin v_partEnd v_bounds v_eaters_13 v_eaterNode_13 Q (w_X12_makeTable_171 p1 v_boundMany v_sort v_value v_parts v_firstPart v_inCase v_partBegin v_partEnd v_bounds Q r79_0 (bz r79_1) r3_0 r3_1 r3_2 v_eaters_13 v_reached_96 v_reachesEnd_96 r3_3 r3_4 r3_5 r3_6 r3_7 r3_8 r3_9 r3_10 v_follows_96 v_endsAfter_96 v_eaterOf_13 v_eaterNode_13 v_isGone_96 v_walk_96 v_states v_stateSet v_isTaken v_leads n_171) l6_171 v_classes_171 v_classTakes_171 v_classOf_171 n_186 l7_186 l9_186 := by
                      intro n_186
                      induction n_186 with
                      | zero =>
                        intro l7_186 l9_186 f102 f103 u186_0 hm_186
                        exfalso; omega
                      | succ n_186 ih_186 =>
                        intro l7_186 l9_186 f102 f103 u186_0 hm_186
                        unfold w_X12_makeTable_186
                        unfold w_X12_makeTable_186B
                        refine ⟨fun c192 => ?_, fun c192 => ?_⟩
                        · have f104 : v_eaters_13.toInt ≤ l9_186.toInt := i_le (a := v_eaters_13.toInt) (b := l9_186.toInt) rfl rfl c192
                          have j_239 : ∀ n_239 : Nat, ∀ (l9_239 : Int32), 0 ≤ l9_239.toInt → l9_239.toInt ≤ 260 → (l9_239.toInt ≤ zg v_classes_171 p1.toInt) → ((-1) * l9_239.toInt + 500).toNat < n_239 → w_X12_makeTable_239 p1 Q (w_X12_makeTable_171 p1 v_boundMany v_sort v_value v_parts v_firstPart v_inCase v_partBegin v_partEnd v_bounds Q r79_0 (bz r79_1) r3_0 r3_1 r3_2 v_eaters_13 v_reached_96 v_reachesEnd_96 r3_3 r3_4 r3_5 r3_6 r3_7 r3_8 r3_9 r3_10 v_follows_96 v_endsAfter_96 v_eaterOf_13 v_eaterNode_13 v_isGone_96 v_walk_96 v_states v_stateSet v_isTaken v_leads n_171) l6_171 l7_186 v_classes_171 v_classTakes_171 v_classOf_171 n_239 l9_239 := by
                            intro n_239
                            induction n_239 with
                            | zero =>
                              intro l9_239 f105 f106 u239_0 hm_239
                              exfalso; omega
                            | succ n_239 ih_239 =>
                              intro l9_239 f105 f106 u239_0 hm_239
                              unfold w_X12_makeTable_239
                              unfold w_X12_makeTable_239B
                              refine ⟨i_in (by omega) (by omega), ?_⟩
                              intro x246 ex246
                              have h246 := zg_at ex246
                              have hcl9 := u171_0.1
                              have f107 : (0 ≤ x246.toInt ∧ x246.toInt ≤ 260) := by omega
                              have j_275 : ((x246.toInt ≤ l9_239.toInt) ∨ (l9_239.toInt + 1 ≤ x246.toInt)) → (l9_239.toInt ≤ zg v_classes_171 p1.toInt) → w_X12_makeTable_275 p1 Q (w_X12_makeTable_171 p1 v_boundMany v_sort v_value v_parts v_firstPart v_inCase v_partBegin v_partEnd v_bounds Q r79_0 (bz r79_1) r3_0 r3_1 r3_2 v_eaters_13 v_reached_96 v_reachesEnd_96 r3_3 r3_4 r3_5 r3_6 r3_7 r3_8 r3_9 r3_10 v_follows_96 v_endsAfter_96 v_eaterOf_13 v_eaterNode_13 v_isGone_96 v_walk_96 v_states v_stateSet v_isTaken v_leads n_171) l6_171 l7_186 l9_239 v_classes_171 v_classTakes_171 v_classOf_171 := by
                                intro f108 u275_0
                                unfold w_X12_makeTable_275
                                intro x283 ex283
                                have f109 : x283.toInt = 500 * p1.toInt := i_mul (a := 500) (b := p1.toInt) ex283 rfl rfl (by omega) (by omega)
                                intro x286 ex286
                                have f110 : x286.toInt = x283.toInt + l9_239.toInt := i_add (a := x283.toInt) (b := l9_239.toInt) ex286 rfl rfl (by omega) (by omega)
                                refine ⟨i_in (by omega) (by omega), ?_⟩
                                intro g289 eg289
                                refine ⟨i_in (by omega) (by omega), ?_⟩
                                intro x302 ex302
                                have f111 : x302.toInt = x246.toInt := congrArg Int32.toInt (ex302.trans ex246.symm)
                                have h302 := zg_at ex302
                                have f112 : (0 ≤ x302.toInt ∧ x302.toInt ≤ 260) := by omega
                                have j_319 : ∀ (s0_319 : Int32), ((s0_319.toInt = x246.toInt ∧ 0 ≤ s0_319.toInt ∧ s0_319.toInt ≤ 260) ∨ (l9_239.toInt = x302.toInt ∧ s0_319.toInt = l9_239.toInt + 1)) → ((l9_239.toInt + 1 ≤ s0_319.toInt ∧ s0_319.toInt ≤ l6_171.toInt + 1) ∧ zg v_classes_171 p1.toInt ≤ s0_319.toInt) → w_X12_makeTable_319 p1 Q (w_X12_makeTable_171 p1 v_boundMany v_sort v_value v_parts v_firstPart v_inCase v_partBegin v_partEnd v_bounds Q r79_0 (bz r79_1) r3_0 r3_1 r3_2 v_eaters_13 v_reached_96 v_reachesEnd_96 r3_3 r3_4 r3_5 r3_6 r3_7 r3_8 r3_9 r3_10 v_follows_96 v_endsAfter_96 v_eaterOf_13 v_eaterNode_13 v_isGone_96 v_walk_96 v_states v_stateSet v_isTaken v_leads n_171) s0_319 p1 l6_171 l9_239 v_classes_171 g289 v_classOf_171 := by
                                  intro s0_319 f113 u319_0
                                  unfold w_X12_makeTable_319
                                  refine ⟨i_in (by omega) (by omega), ?_⟩
                                  intro g319 eg319
                                  intro x328 ex328
                                  have f114 : x328.toInt = 3000 * p1.toInt := i_mul (a := 3000) (b := p1.toInt) ex328 rfl rfl (by omega) (by omega)
                                  intro x331 ex331
                                  have f115 : x331.toInt = x328.toInt + l6_171.toInt := i_add (a := x328.toInt) (b := l6_171.toInt) ex331 rfl rfl (by omega) (by omega)
                                  refine ⟨i_in (by omega) (by omega), ?_⟩
                                  intro g334 eg334
                                  intro x335 ex335
                                  have f116 : x335.toInt = l6_171.toInt + 1 := i_add (a := l6_171.toInt) (b := 1) ex335 rfl rfl (by omega) (by omega)
                                  exact ih_171 x335 g319 g289 g334  (by omega) (by omega) (by first | exact zCl_0 eg167 rfl rfl rfl | exact zCl_s u171_0 eg319 eg334 u319_0 rfl (by omega) (by omega) (by omega) (by omega) (by omega)) (by first | exact zTf_cl zTf_0 eg167 rfl (by omega) | exact zTf_co (zTf_cl u171_1 eg319 rfl (by omega)) eg334 (by omega) (by omega)) (by have h8_0 := i_rng l6_171; have h8_1 := i_rng x335; omega)
                                refine ⟨fun c303 => ?_, fun c303 => ?_⟩
                                · have f117 : l9_239.toInt ≠ x302.toInt := i_ne (a := l9_239.toInt) (b := x302.toInt) rfl rfl c303
                                  refine ⟨i_in (by omega) (by omega), ?_⟩
                                  intro x318 ex318
                                  have f118 : x318.toInt = x246.toInt := congrArg Int32.toInt (ex318.trans ex246.symm)
                                  have h318 := zg_at ex318
                                  have f119 : (0 ≤ x318.toInt ∧ x318.toInt ≤ 260) := by omega
                                  exact j_319 x318 (by omega) (by first | exact ⟨⟨by omega, by omega⟩, by omega⟩ | omega)
                                · have f120 : l9_239.toInt = x302.toInt := i_eq (a := l9_239.toInt) (b := x302.toInt) rfl rfl c303
                                  intro x309 ex309
                                  have f121 : x309.toInt = l9_239.toInt + 1 := i_add (a := l9_239.toInt) (b := 1) ex309 rfl rfl (by omega) (by omega)
                                  exact j_319 x309 (by omega) (by first | exact ⟨⟨by omega, by omega⟩, by omega⟩ | omega)
                              refine ⟨fun c247 => ?_, fun c247 => ?_⟩
                              · have f122 : x246.toInt ≤ l9_239.toInt := i_le (a := x246.toInt) (b := l9_239.toInt) rfl rfl c247
                                exact j_275  (by omega) (by first | exact u239_0 | omega)
                              · have f123 : l9_239.toInt < x246.toInt := i_nle (a := x246.toInt) (b := l9_239.toInt) rfl rfl c247
                                intro x258 ex258
                                have f124 : x258.toInt = 500 * p1.toInt := i_mul (a := 500) (b := p1.toInt) ex258 rfl rfl (by omega) (by omega)
                                intro x261 ex261
                                have f125 : x261.toInt = x258.toInt + l9_239.toInt := i_add (a := x258.toInt) (b := l9_239.toInt) ex261 rfl rfl (by omega) (by omega)
                                refine ⟨i_in (by omega) (by omega), ?_⟩
                                intro y262 ey262
                                intro x265 ex265
                                have f126 : (0 ≤ x265.toInt + 1 ∧ x265.toInt ≤ 1) := by have h9 := i_cmp ex265; omega
                                refine ⟨fun c266 => ?_, fun c266 => ?_⟩
                                · have f127 : x265.toInt = 0 := i_eq (a := x265.toInt) (b := 0) rfl rfl c266
                                  exact j_275  (by omega) (by first | exact u239_0 | omega)
                                · have f128 : x265.toInt ≠ 0 := i_ne (a := x265.toInt) (b := 0) rfl rfl c266
                                  intro x269 ex269
                                  have f129 : x269.toInt = l9_239.toInt + 1 := i_add (a := l9_239.toInt) (b := 1) ex269 rfl rfl (by omega) (by omega)
                                  exact ih_239 x269  (by omega) (by omega) (by first | omega | exact u171_0.1.1) (by have h8_0 := i_rng l9_239; have h8_1 := i_rng x269; omega)
                          exact ⟨(500 : Int).toNat + 1, j_239   ((500 : Int).toNat + 1) 0  (by omega) (by omega) (by first | omega | exact u171_0.1.1) (by omega)⟩
                        · have f130 : l9_186.toInt < v_eaters_13.toInt := i_nle (a := v_eaters_13.toInt) (b := l9_186.toInt) rfl rfl c192
                          refine ⟨i_in (by omega) (by omega), ?_⟩
                          intro x202 ex202
                          have h202 := zEa_y hA9 ex202 (by omega) (by omega)
                          have hs2 := zS_sort2 (g := x202.toInt) u0 (by omega) (by omega)
                          refine ⟨i_in (by omega) (by omega), ?_⟩
                          intro x209 ex209
                          have f131 : 0 ≤ x209.toInt ∧ x209.toInt ≤ 65535 := by have h9 := rp_get (P := (fun k v => 0 ≤ v ∧ v ≤ 65535)) (a := l6_171.toInt) b0 ex209 rfl (by omega) (by omega) (by omega); omega
                          refine ok_X12_takes (v_least := v_least) (v_most := v_most) (v_holder := v_holder) (v_end := v_end) (gb9 := (220 * p2.toInt)) (gq9 := (420 * p2.toInt)) (gn9 := (zg v_many p2.toInt)) (gc9 := (zg v_captures p2.toInt)) (by omega) (by omega) (by exact u0) (by exact h202.1.1) (by exact h202.1.2) (by exact ⟨by omega, by omega⟩) (by exact ⟨by omega, by omega⟩) (by exact h202.2) (by exact hs2) (fun r210 f132 f133 => ?_)
                          have j_228 : ∀ (s0_228 : Int64), (True) → w_X12_makeTable_228 Q (w_X12_makeTable_171 p1 v_boundMany v_sort v_value v_parts v_firstPart v_inCase v_partBegin v_partEnd v_bounds Q r79_0 (bz r79_1) r3_0 r3_1 r3_2 v_eaters_13 v_reached_96 v_reachesEnd_96 r3_3 r3_4 r3_5 r3_6 r3_7 r3_8 r3_9 r3_10 v_follows_96 v_endsAfter_96 v_eaterOf_13 v_eaterNode_13 v_isGone_96 v_walk_96 v_states v_stateSet v_isTaken v_leads n_171) (w_X12_makeTable_186 p1 v_sort v_value v_parts v_firstPart v_inCase v_partBegin v_partEnd v_bounds v_eaters_13 v_eaterNode_13 Q (w_X12_makeTable_171 p1 v_boundMany v_sort v_value v_parts v_firstPart v_inCase v_partBegin v_partEnd v_bounds Q r79_0 (bz r79_1) r3_0 r3_1 r3_2 v_eaters_13 v_reached_96 v_reachesEnd_96 r3_3 r3_4 r3_5 r3_6 r3_7 r3_8 r3_9 r3_10 v_follows_96 v_endsAfter_96 v_eaterOf_13 v_eaterNode_13 v_isGone_96 v_walk_96 v_states v_stateSet v_isTaken v_leads n_171) l6_171 v_classes_171 v_classTakes_171 v_classOf_171 n_186) s0_228 l9_186 := by
                            intro s0_228 u228_0
                            unfold w_X12_makeTable_228
                            intro x230 ex230
                            have f134 : x230.toInt = l9_186.toInt + 1 := i_add (a := l9_186.toInt) (b := 1) ex230 rfl rfl (by omega) (by omega)
                            exact ih_186 s0_228 x230  (by omega) (by omega) (by trivial) (by have h8_0 := i_rng l9_186; have h8_1 := i_rng x230; omega)
                          refine ⟨fun c213 => ?_, fun c213 => ?_⟩
                          · have f135 : r210.toInt = 0 := i_eq (a := r210.toInt) (b := 0) rfl rfl c213
                            exact j_228 l7_186 (by trivial)
                          · have f136 : r210.toInt ≠ 0 := i_ne (a := r210.toInt) (b := 0) rfl rfl c213
                            intro y221 ey221
                            intro y222 ey222
                            exact j_228 y222 (by trivial)
                    exact ⟨(2147483648 : Int).toNat + 1, j_186   ((2147483648 : Int).toNat + 1) 0 0  (by omega) (by omega) (by trivial) (by omega)⟩
              exact ⟨(500 : Int).toNat + 1, j_171   ((500 : Int).toNat + 1) 0 g167 v_classTakes v_classOf  (by omega) (by omega) (by first | exact zCl_0 eg167 rfl rfl rfl | exact zCl_s u171_0 eg319 eg334 u319_0 rfl (by omega) (by omega) (by omega) (by omega) (by omega)) (by first | exact zTf_cl zTf_0 eg167 rfl (by omega) | exact zTf_co (zTf_cl u171_1 eg319 rfl (by omega)) eg334 (by omega) (by omega)) (by omega)⟩
            · have f137 : l6_96.toInt < r3_0.toInt := i_nle (a := r3_0.toInt) (b := l6_96.toInt) rfl rfl c102
              refine ⟨i_in (by omega) (by omega), ?_⟩
              intro x111 ex111
              have j_155 : ∀ (v_reached_155 : Int64) (v_reachesEnd_155 : Bool) (v_follows_155 : Nat → Int64) (v_endsAfter_155 : Nat → Bool) (v_isGone_155 : Nat → Bool) (v_walk_155 : Nat → Int32), w_X12_makeTable_155 Q (w_X12_makeTable_96 p1 v_boundMany v_sort v_value v_parts v_firstPart v_inCase v_partBegin v_partEnd v_bounds Q r79_0 (bz r79_1) r3_0 r3_1 r3_2 v_eaters_13 r3_3 r3_4 r3_5 r3_6 r3_7 r3_8 r3_9 r3_10 v_eaterOf_13 v_eaterNode_13 v_states v_stateSet v_isTaken v_classes v_classTakes v_classOf v_leads n_96) l6_96 v_reached_155 v_reachesEnd_155 v_follows_155 v_endsAfter_155 v_isGone_155 v_walk_155 := by
                intro v_reached_155 v_reachesEnd_155 v_follows_155 v_endsAfter_155 v_isGone_155 v_walk_155
                unfold w_X12_makeTable_155
                intro x155 ex155
                have f138 : x155.toInt = l6_96.toInt + 1 := i_add (a := l6_96.toInt) (b := 1) ex155 rfl rfl (by omega) (by omega)
                exact ih_96 x155 v_reached_155 v_reachesEnd_155 v_follows_155 v_endsAfter_155 v_isGone_155 v_walk_155  (by omega) (by omega) (by have h8_0 := i_rng l6_96; have h8_1 := i_rng x155; omega)
              refine ⟨fun c112 => ?_, fun c112 => ?_⟩
              · have f139 : x111.toInt ≠ 0 := i_ne (a := x111.toInt) (b := 0) rfl rfl c112
                exact j_155 v_reached_96 v_reachesEnd_96 v_follows_96 v_endsAfter_96 v_isGone_96 v_walk_96 
              · have f140 : x111.toInt = 0 := i_eq (a := x111.toInt) (b := 0) rfl rfl c112
                have h111 := zg_at ex111
                have h1n := (hG3 l6_96.toInt (by omega) (by omega) (by omega)).2.2
                have f141 : l6_96.toInt + 2 ≤ r3_0.toInt := by omega
                intro x119 ex119
                have f142 : x119.toInt = l6_96.toInt + 1 := i_add (a := l6_96.toInt) (b := 1) ex119 rfl rfl (by omega) (by omega)
                refine ok_X12_reach (by omega) (by omega) (by omega) (by omega) (by exact hG1) (fun r120_0 r120_1 r120_2 r120_3 => ?_)
                refine ⟨i_in (by omega) (by omega), ?_⟩
                intro x133 ex133
                have f143 : (0 ≤ x133.toInt ∧ x133.toInt + 1 ≤ v_eaters_13.toInt) := zEa_x hA9 ex111 ex133 (by omega) (by omega) (by omega) rfl
                refine ⟨i_in (by omega) (by omega), ?_⟩
                intro g138 eg138
                refine ⟨i_in (by omega) (by omega), ?_⟩
                intro x149 ex149
                have f144 : x149.toInt = x133.toInt := congrArg Int32.toInt (ex149.trans ex133.symm)
                have f145 : (0 ≤ x149.toInt ∧ x149.toInt + 1 ≤ v_eaters_13.toInt) := zEa_x hA9 ex111 ex149 (by omega) (by omega) (by omega) rfl
                have f146 : (0 ≤ (bz r120_1).toInt ∧ (bz r120_1).toInt ≤ 1) := i_bzr r120_1
                refine ⟨i_in (by omega) (by omega), ?_⟩
                intro g154 eg154
                exact j_155 r120_0 r120_1 g138 g154 r120_2 r120_3 
        exact ⟨(2147483648 : Int).toNat + 1, j_96   ((2147483648 : Int).toNat + 1) 0 r79_0 r79_1 v_follows v_endsAfter r79_2 r79_3  (by omega) (by omega) (by omega)⟩
      · have f147 : l3_13.toInt < r3_0.toInt := i_nle (a := r3_0.toInt) (b := l3_13.toInt) rfl rfl c18
        refine ⟨i_in (by omega) (by omega), ?_⟩
        intro x26 ex26
        have j_71 : ∀ (v_eaters_71 : Int32) (v_eaterOf_71 : Nat → Int32) (v_eaterNode_71 : Nat → Int32), v_eaters_13.toInt ≤ v_eaters_71.toInt → v_eaters_71.toInt ≤ v_eaters_13.toInt + 1 → ((v_eaters_71.toInt = v_eaters_13.toInt) ∨ (v_eaters_13.toInt ≤ 59 ∧ v_eaters_71.toInt = v_eaters_13.toInt + 1)) → (zEa v_sort r3_3 r3_4 v_eaterOf_71 v_eaterNode_71 (220 * p2.toInt) (zg v_many p2.toInt) (l3_13.toInt + 1) v_eaters_71.toInt) → w_X12_makeTable_71 Q (w_X12_makeTable_13 p1 p2 v_boundMany v_sort v_value v_parts v_firstPart v_inCase v_partBegin v_partEnd v_bounds Q r3_0 r3_1 r3_2 v_reached v_reachesEnd r3_3 r3_4 r3_5 r3_6 r3_7 r3_8 r3_9 r3_10 v_follows v_endsAfter v_isGone v_walk v_states v_stateSet v_isTaken v_classes v_classTakes v_classOf v_leads n_13) l3_13 v_eaters_71 v_eaterOf_71 v_eaterNode_71 := by
          intro v_eaters_71 v_eaterOf_71 v_eaterNode_71 f148 f149 f150 u71_0
          unfold w_X12_makeTable_71
          intro x71 ex71
          have f151 : x71.toInt = l3_13.toInt + 1 := i_add (a := l3_13.toInt) (b := 1) ex71 rfl rfl (by omega) (by omega)
          exact ih_13 x71 v_eaters_71 v_eaterOf_71 v_eaterNode_71  (by omega) (by omega) (by omega) (by omega) (by first | exact zEa_0 (by decide) rfl | (rw [show x71.toInt = l3_13.toInt + 1 by omega]; exact u71_0)) (by have h8_0 := i_rng l3_13; have h8_1 := i_rng x71; omega)
        refine ⟨fun c27 => ?_, fun c27 => ?_⟩
        · have f152 : x26.toInt ≠ 0 := i_ne (a := x26.toInt) (b := 0) rfl rfl c27
          exact j_71 v_eaters_13 v_eaterOf_13 v_eaterNode_13 (by omega) (by omega) (by omega) (by first | exact zEa_n u13_0 ex26 (by omega) (by omega) rfl | exact zEa_s u13_0 hC9 ex26 (by omega) ex58 eg39 eg60 (by omega) (by omega) rfl rfl (by omega) (by omega) rfl (by omega))
        · have f153 : x26.toInt = 0 := i_eq (a := x26.toInt) (b := 0) rfl rfl c27
          have h26 := zg_at ex26
          have hm9 := zcE_m (ac := r3_3) (a := l3_13.toInt + 1) (N := r3_0.toInt) (by omega) (by omega)
          rw [zcE_a (by omega), if_pos (by omega), ← u13_0.1] at hm9
          have f154 : v_eaters_13.toInt ≤ 59 := by omega
          refine ⟨i_in (by omega) (by omega), ?_⟩
          intro g39 eg39
          intro x52 ex52
          have f155 : x52.toInt = 220 * p2.toInt := i_mul (a := 220) (b := p2.toInt) ex52 rfl rfl (by omega) (by omega)
          refine ⟨i_in (by omega) (by omega), ?_⟩
          intro x58 ex58
          have h58 := zg_at ex58
          have h57 := (hG3 l3_13.toInt (by omega) (by omega) (by omega)).1
          have f156 : (0 ≤ x58.toInt ∧ x58.toInt + 1 ≤ (zg v_many p2.toInt : Int)) := by omega
          intro x59 ex59
          have f157 : x59.toInt = x52.toInt + x58.toInt := i_add (a := x52.toInt) (b := x58.toInt) ex59 rfl rfl (by omega) (by omega)
          refine ⟨i_in (by omega) (by omega), ?_⟩
          intro g60 eg60
          intro x67 ex67
          have f158 : x67.toInt = v_eaters_13.toInt + 1 := i_add (a := v_eaters_13.toInt) (b := 1) ex67 rfl rfl (by omega) (by omega)
          exact j_71 x67 g39 g60 (by omega) (by omega) (by omega) (by first | exact zEa_n u13_0 ex26 (by omega) (by omega) rfl | exact zEa_s u13_0 hC9 ex26 (by omega) ex58 eg39 eg60 (by omega) (by omega) rfl rfl (by omega) (by omega) rfl (by omega))
  exact ⟨(2147483648 : Int).toNat + 1, j_13   ((2147483648 : Int).toNat + 1) 0 0 v_eaterOf v_eaterNode  (by omega) (by omega) (by omega) (by omega) (by first | exact zEa_0 (by decide) rfl | (rw [show (0 : Int32).toInt = l3_13.toInt + 1 by omega]; exact u71_0)) (by omega)⟩
