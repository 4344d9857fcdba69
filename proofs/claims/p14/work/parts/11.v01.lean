set_option maxHeartbeats 4000000 in
theorem ok_X12_first {p1 : Int32} {p2 : Int32} {p3 : Int32} {p4 : Int32} {v_finding : Int32} {v_acts : Int32} {v_labels : Int32} {v_tasks : Int32} {v_trail : Int32} {v_choices : Int32} {v_now : Int32} {v_spot : Int32} {v_slotNow : Int32} {v_textNow : Int32} {v_longNow : Int32} {v_steps : Int32} {v_limit : Int32} {v_isOver : Bool} {v_stamp : Int32} {v_isGoing : Bool} {v_isThere : Nat → Bool} {v_many : Nat → Int32} {v_sort : Nat → Int32} {v_value : Nat → Int32} {v_least : Nat → Int32} {v_most : Nat → Int32} {v_parts : Nat → Int32} {v_end : Nat → Int32} {v_size : Nat → Int32} {v_positions : Nat → Int32} {v_firstPart : Nat → Int32} {v_mayEmpty : Nat → Bool} {v_inCase : Nat → Bool} {v_partBegin : Nat → Int32} {v_partEnd : Nat → Int32} {v_isSubject : Nat → Bool} {v_long0 : Nat → Int32} {v_signs : Nat → Int32} {v_act : Nat → Int32} {v_actA : Nat → Int32} {v_actB : Nat → Int32} {v_labelAt : Nat → Int32} {v_task : Nat → Int32} {v_taskA : Nat → Int32} {v_taskB : Nat → Int32} {v_held : Nat → Int32} {v_reg : Nat → Int32} {v_trailOf : Nat → Int32} {v_trailOld : Nat → Int32} {v_choiceSort : Nat → Int32} {v_choiceAct : Nat → Int32} {v_choicePlace : Nat → Int32} {v_choiceTrail : Nat → Int32} {v_seen : Nat → Int32} {v_found : Nat → Int32} {v_captures : Nat → Int32} {v_holder : Nat → Int32} {v_goSlot : Int32} {v_goSubject : Int32} {v_goFrom : Int32} {v_goSteps : Int32} {Q : Int32 → Int32 → Int32 → Int32 → Int32 → Int32 → Int32 → Int32 → Int32 → Int32 → Int32 → Int32 → Int32 → Int32 → Int32 → Bool → Int32 → Bool → (Nat → Int32) → (Nat → Int32) → (Nat → Int32) → (Nat → Int32) → (Nat → Int32) → (Nat → Int32) → (Nat → Int32) → (Nat → Int32) → (Nat → Int32) → (Nat → Int32) → (Nat → Int32) → (Nat → Int32) → (Nat → Int32) → (Nat → Int32) → (Nat → Int32) → (Nat → Int32) → (Nat → Int32) → Prop} (b0 : rp (fun k v => 0 ≤ v ∧ v ≤ 100) v_long0 0 4) (b1 : rp (fun k v => 0 ≤ v ∧ v ≤ 65535) v_signs 0 400) (b2 : rp (fun k v => 0 ≤ v ∧ v ≤ 1129) v_trailOf 0 v_trail.toInt) (u0 : zAll v_isThere v_many v_captures v_sort v_value v_least v_most v_holder v_parts v_end v_firstPart v_partBegin v_partEnd v_size v_positions) (u1 : zGi v_isGoing v_isThere v_long0 v_goSlot.toInt v_goSubject.toInt v_goFrom.toInt v_goSteps.toInt) (hq : ∀ (r : Int32) (ov_thrown : Int32) (ov_finding : Int32) (ov_acts : Int32) (ov_labels : Int32) (ov_tasks : Int32) (ov_trail : Int32) (ov_choices : Int32) (ov_now : Int32) (ov_spot : Int32) (ov_slotNow : Int32) (ov_textNow : Int32) (ov_longNow : Int32) (ov_steps : Int32) (ov_limit : Int32) (ov_isOver : Bool) (ov_stamp : Int32) (ov_isGoing : Bool) (ov_act : Nat → Int32) (ov_actA : Nat → Int32) (ov_actB : Nat → Int32) (ov_labelAt : Nat → Int32) (ov_task : Nat → Int32) (ov_taskA : Nat → Int32) (ov_taskB : Nat → Int32) (ov_held : Nat → Int32) (ov_reg : Nat → Int32) (ov_trailOf : Nat → Int32) (ov_trailOld : Nat → Int32) (ov_choiceSort : Nat → Int32) (ov_choiceAct : Nat → Int32) (ov_choicePlace : Nat → Int32) (ov_choiceTrail : Nat → Int32) (ov_seen : Nat → Int32) (ov_found : Nat → Int32), ov_thrown.toInt = 0 → 0 ≤ r.toInt + 8 → r.toInt ≤ 5 → rp (fun k v => 0 ≤ v ∧ v ≤ 1129) ov_trailOf 0 ov_trail.toInt → rp (fun k v => 0 ≤ v ∧ v ≤ 1129) ov_trailOf ov_thrown.toInt ov_trail.toInt → rp (fun k v => 0 ≤ v ∧ v ≤ 1129) ov_trailOf (r.toInt + 8) ov_trail.toInt → (zGi ov_isGoing v_isThere v_long0 v_goSlot.toInt v_goSubject.toInt v_goFrom.toInt v_goSteps.toInt) → Q r ov_thrown ov_finding ov_acts ov_labels ov_tasks ov_trail ov_choices ov_now ov_spot ov_slotNow ov_textNow ov_longNow ov_steps ov_limit ov_isOver ov_stamp ov_isGoing ov_act ov_actA ov_actB ov_labelAt ov_task ov_taskA ov_taskB ov_held ov_reg ov_trailOf ov_trailOld ov_choiceSort ov_choiceAct ov_choicePlace ov_choiceTrail ov_seen ov_found) : w_X12_first p1 p2 p3 p4 v_finding v_acts v_labels v_tasks v_trail v_choices v_now v_spot v_slotNow v_textNow v_longNow v_steps v_limit v_isOver v_stamp v_isGoing v_isThere v_many v_sort v_value v_least v_most v_parts v_end v_size v_positions v_firstPart v_mayEmpty v_inCase v_partBegin v_partEnd v_isSubject v_long0 v_signs v_act v_actA v_actB v_labelAt v_task v_taskA v_taskB v_held v_reg v_trailOf v_trailOld v_choiceSort v_choiceAct v_choicePlace v_choiceTrail v_seen v_found Q := by
  have q_t : (bz true).toInt = 1 := rfl
  have q_f : (bz false).toInt = 0 := rfl
  have q_m8 : ((-8) : Int32).toInt = (-8) := rfl
  have q_m7 : ((-7) : Int32).toInt = (-7) := rfl
  have q_m6 : ((-6) : Int32).toInt = (-6) := rfl
  have q_m4 : ((-4) : Int32).toInt = (-4) := rfl
  have q_m2 : ((-2) : Int32).toInt = (-2) := rfl
  have q_m1 : ((-1) : Int32).toInt = (-1) := rfl
  have q_0 : (0 : Int32).toInt = 0 := rfl
  have q_1 : (1 : Int32).toInt = 1 := rfl
  have q_2 : (2 : Int32).toInt = 2 := rfl
  have q_63 : (63 : Int32).toInt = 63 := rfl
  have q_101 : (101 : Int32).toInt = 101 := rfl
  have q_3000 : (3000 : Int32).toInt = 3000 := rfl
  unfold w_X12_first
  refine ok_X12_in  (fun r9 f1 f2 f3 f4 f5 f6 => ?_)
  refine ⟨fun c12 => ?_, fun c12 => ?_⟩
  · have f7 : r9.toInt ≠ 0 := i_ne (a := r9.toInt) (b := 0) rfl rfl c12
    have j_27 : ∀ n_27 : Nat, ∀ (l7_27 : Int32) (v_finding_27 : Int32), v_finding.toInt ≤ v_finding_27.toInt → v_finding_27.toInt ≤ v_finding.toInt → 0 ≤ l7_27.toInt → l7_27.toInt ≤ 6 → (zBt p1 (fun s : Int32 => v_isThere s.toNatClampNeg = true) l7_27.toInt) → ((-1) * l7_27.toInt + 6).toNat < n_27 → w_X12_first_27 p1 p2 p3 p4 v_isThere v_many v_sort v_value v_least v_most v_parts v_end v_size v_positions v_firstPart v_mayEmpty v_inCase v_partBegin v_partEnd v_isSubject v_long0 v_signs Q 0 0 0 v_acts v_labels v_tasks v_trail v_choices v_now v_spot v_slotNow v_textNow v_longNow v_steps v_limit v_isOver v_stamp v_isGoing v_act v_actA v_actB v_labelAt v_task v_taskA v_taskB v_held v_reg v_trailOf v_trailOld v_choiceSort v_choiceAct v_choicePlace v_choiceTrail v_seen v_found n_27 l7_27 v_finding_27 := by
      intro n_27
      induction n_27 with
      | zero =>
        intro l7_27 v_finding_27 f8 f9 f10 f11 u27_0 hm_27
        exfalso; omega
      | succ n_27 ih_27 =>
        intro l7_27 v_finding_27 f8 f9 f10 f11 u27_0 hm_27
        unfold w_X12_first_27
        unfold w_X12_first_27B
        refine ⟨fun c31 => ?_, fun c31 => ?_⟩
        · have f12 : 6 ≤ l7_27.toInt := i_le (a := 6) (b := l7_27.toInt) rfl rfl c31
          refine ok_X12_wrongSubject  (fun r64 r64_0 f13 f14 f15 u64_0 u64_1 u64_2 => ?_)
          refine ⟨fun c71 => ?_, fun c71 => ?_⟩
          · have f16 : r64.toInt = 0 := i_eq (a := r64.toInt) (b := 0) rfl rfl c71
            refine ⟨i_in (by omega) (by omega), ?_⟩
            intro x84 ex84
            have f17 : 0 ≤ x84.toInt ∧ x84.toInt ≤ 100 := by have h9 := rp_get (P := (fun k v => 0 ≤ v ∧ v ≤ 100)) (a := p2.toInt) b0 ex84 rfl (by omega) (by omega) (by omega); omega
            have h84 := zg_at ex84
            refine ok_X12_in  (fun r85 f18 f19 f20 f21 f22 f23 => ?_)
            have j_101 : w_X12_first_101 Q 0 r64_0 v_acts v_labels v_tasks v_trail v_choices v_now v_spot v_slotNow v_textNow v_longNow v_steps v_limit v_isOver v_stamp v_isGoing v_act v_actA v_actB v_labelAt v_task v_taskA v_taskB v_held v_reg v_trailOf v_trailOld v_choiceSort v_choiceAct v_choicePlace v_choiceTrail v_seen v_found := by
              unfold w_X12_first_101
              exact hq (-4) 0 r64_0 v_acts v_labels v_tasks v_trail v_choices v_now v_spot v_slotNow v_textNow v_longNow v_steps v_limit v_isOver v_stamp v_isGoing v_act v_actA v_actB v_labelAt v_task v_taskA v_taskB v_held v_reg v_trailOf v_trailOld v_choiceSort v_choiceAct v_choicePlace v_choiceTrail v_seen v_found (by omega) (by omega) (by omega) (rp_mono b2 (by omega) (by omega)) (rp_mono b2 (by omega) (by omega)) (rp_mono b2 (by omega) (by omega)) (by exact u1)
            refine ⟨fun c88 => ?_, fun c88 => ?_⟩
            · have f24 : r85.toInt = 0 := i_eq (a := r85.toInt) (b := 0) rfl rfl c88
              exact j_101  
            · have f25 : r85.toInt ≠ 0 := i_ne (a := r85.toInt) (b := 0) rfl rfl c88
              refine ok_X12_in  (fun r95 f26 f27 f28 f29 f30 f31 => ?_)
              refine ⟨fun c98 => ?_, fun c98 => ?_⟩
              · have f32 : r95.toInt ≠ 0 := i_ne (a := r95.toInt) (b := 0) rfl rfl c98
                have f33 : 0 ≤ p2.toInt := by omega
                have f34 : p2.toInt ≤ 3 := by omega
                have f35 : 0 ≤ p3.toInt := by omega
                have f36 : 0 ≤ p4.toInt := by omega
                have f37 : p4.toInt ≤ 2 := by omega
                have f38 : p3.toInt ≤ x84.toInt := by omega
                have j_107 : ∀ n_107 : Nat, ∀ (l5_107 : Int32) (l6_107 : Int32) (l8_107 : Int32), l5_107.toInt ≤ 0 → 0 ≤ l5_107.toInt + 6 * l8_107.toInt → l6_107.toInt ≤ 0 → 0 ≤ l6_107.toInt + 7 * l8_107.toInt → l8_107.toInt ≤ 6 → (l5_107.toInt = 0 → l6_107.toInt = 0 → zBt p1 (fun s : Int32 => (1 ≤ p4.toInt → zKb v_sort (220 * s.toInt) (zg v_many s.toInt)) ∧ (1 ≤ p4.toInt → zg v_size (220 * s.toInt) ≤ 200)) l8_107.toInt) → ((-1) * l8_107.toInt + 6).toNat < n_107 → w_X12_first_107 p1 p2 p3 p4 v_many v_sort v_value v_least v_most v_parts v_end v_size v_positions v_firstPart v_mayEmpty v_inCase v_partBegin v_partEnd v_long0 v_signs Q 0 r64_0 v_acts v_labels v_tasks v_trail v_choices v_now v_spot v_slotNow v_textNow v_longNow v_steps v_limit v_isOver v_stamp v_isGoing v_act v_actA v_actB v_labelAt v_task v_taskA v_taskB v_held v_reg v_trailOf v_trailOld v_choiceSort v_choiceAct v_choicePlace v_choiceTrail v_seen v_found n_107 l5_107 l6_107 l8_107 := by
                  intro n_107
                  induction n_107 with
                  | zero =>
                    intro l5_107 l6_107 l8_107 f39 f40 f41 f42 f43 u107_0 hm_107
                    exfalso; omega
                  | succ n_107 ih_107 =>
                    intro l5_107 l6_107 l8_107 f39 f40 f41 f42 f43 u107_0 hm_107
                    unfold w_X12_first_107
                    unfold w_X12_first_107B
                    refine ⟨fun c111 => ?_, fun c111 => ?_⟩
                    · have f44 : 6 ≤ l8_107.toInt := i_le (a := 6) (b := l8_107.toInt) rfl rfl c111
                      have j_166 : w_X12_first_166 Q l5_107 0 r64_0 v_acts v_labels v_tasks v_trail v_choices v_now v_spot v_slotNow v_textNow v_longNow v_steps v_limit v_isOver v_stamp v_isGoing v_act v_actA v_actB v_labelAt v_task v_taskA v_taskB v_held v_reg v_trailOf v_trailOld v_choiceSort v_choiceAct v_choicePlace v_choiceTrail v_seen v_found := by
                        unfold w_X12_first_166
                        have j_178 : ∀ (s0_178 : Int32), 0 ≤ s0_178.toInt + 9 → s0_178.toInt ≤ 6 → ((s0_178.toInt + 7 = 0 ∧ l5_107.toInt = 0) ∨ (s0_178.toInt + 6 = 0)) → w_X12_first_178 Q s0_178 0 r64_0 v_acts v_labels v_tasks v_trail v_choices v_now v_spot v_slotNow v_textNow v_longNow v_steps v_limit v_isOver v_stamp v_isGoing v_act v_actA v_actB v_labelAt v_task v_taskA v_taskB v_held v_reg v_trailOf v_trailOld v_choiceSort v_choiceAct v_choicePlace v_choiceTrail v_seen v_found := by
                          intro s0_178 f45 f46 f47
                          unfold w_X12_first_178
                          exact hq s0_178 0 r64_0 v_acts v_labels v_tasks v_trail v_choices v_now v_spot v_slotNow v_textNow v_longNow v_steps v_limit v_isOver v_stamp v_isGoing v_act v_actA v_actB v_labelAt v_task v_taskA v_taskB v_held v_reg v_trailOf v_trailOld v_choiceSort v_choiceAct v_choicePlace v_choiceTrail v_seen v_found (by omega) (by omega) (by omega) (rp_mono b2 (by omega) (by omega)) (rp_mono b2 (by omega) (by omega)) (rp_mono b2 (by omega) (by omega)) (by exact u1)
                        refine ⟨fun c168 => ?_, fun c168 => ?_⟩
                        · have f48 : l5_107.toInt = 0 := i_eq (a := l5_107.toInt) (b := 0) rfl rfl c168
                          exact j_178 (-7) (by omega) (by omega) (by omega)
                        · have f49 : l5_107.toInt ≠ 0 := i_ne (a := l5_107.toInt) (b := 0) rfl rfl c168
                          exact j_178 (-6) (by omega) (by omega) (by omega)
                      refine ⟨fun c158 => ?_, fun c158 => ?_⟩
                      · have f50 : l5_107.toInt ≠ 0 := i_ne (a := l5_107.toInt) (b := 0) rfl rfl c158
                        exact j_166  
                      · have f51 : l5_107.toInt = 0 := i_eq (a := l5_107.toInt) (b := 0) rfl rfl c158
                        refine ⟨fun c163 => ?_, fun c163 => ?_⟩
                        · have f52 : l6_107.toInt = 0 := i_eq (a := l6_107.toInt) (b := 0) rfl rfl c163
                          have hB9 := u107_0 (by omega) (by omega)
                          have j_194 : ∀ n_194 : Nat, ∀ (l8_194 : Int32) (l9_194 : Int32) (l10_194 : Int32) (v_acts_194 : Int32) (v_labels_194 : Int32) (v_tasks_194 : Int32) (v_trail_194 : Int32) (v_choices_194 : Int32) (v_now_194 : Int32) (v_spot_194 : Int32) (v_slotNow_194 : Int32) (v_textNow_194 : Int32) (v_longNow_194 : Int32) (v_steps_194 : Int32) (v_limit_194 : Int32) (v_isOver_194 : Bool) (v_stamp_194 : Int32) (v_act_194 : Nat → Int32) (v_actA_194 : Nat → Int32) (v_actB_194 : Nat → Int32) (v_labelAt_194 : Nat → Int32) (v_task_194 : Nat → Int32) (v_taskA_194 : Nat → Int32) (v_taskB_194 : Nat → Int32) (v_held_194 : Nat → Int32) (v_reg_194 : Nat → Int32) (v_trailOf_194 : Nat → Int32) (v_trailOld_194 : Nat → Int32) (v_choiceSort_194 : Nat → Int32) (v_choiceAct_194 : Nat → Int32) (v_choicePlace_194 : Nat → Int32) (v_choiceTrail_194 : Nat → Int32) (v_seen_194 : Nat → Int32) (v_found_194 : Nat → Int32), l9_194.toInt ≤ 101 → 0 ≤ l10_194.toInt → l10_194.toInt ≤ 6 → 0 ≤ l8_194.toInt + 1 → l8_194.toInt ≤ 5 → rp (fun k v => 0 ≤ v ∧ v ≤ 1129) v_trailOf_194 0 v_trail_194.toInt → rp (fun k v => 0 ≤ v ∧ v ≤ 1129) v_trailOf_194 (l8_194.toInt + 1) v_trail_194.toInt → rp (fun k v => 0 ≤ v ∧ v ≤ 1129) v_trailOf_194 l10_194.toInt v_trail_194.toInt → ((-1) * l10_194.toInt + 6).toNat < n_194 → w_X12_first_194 p1 p2 p3 p4 v_sort v_value v_least v_most v_parts v_end v_firstPart v_inCase v_partBegin v_partEnd v_long0 v_signs Q 0 r64_0 false n_194 l8_194 l9_194 l10_194 v_acts_194 v_labels_194 v_tasks_194 v_trail_194 v_choices_194 v_now_194 v_spot_194 v_slotNow_194 v_textNow_194 v_longNow_194 v_steps_194 v_limit_194 v_isOver_194 v_stamp_194 v_act_194 v_actA_194 v_actB_194 v_labelAt_194 v_task_194 v_taskA_194 v_taskB_194 v_held_194 v_reg_194 v_trailOf_194 v_trailOld_194 v_choiceSort_194 v_choiceAct_194 v_choicePlace_194 v_choiceTrail_194 v_seen_194 v_found_194 := by
                            intro n_194
                            induction n_194 with
                            | zero =>
                              intro l8_194 l9_194 l10_194 v_acts_194 v_labels_194 v_tasks_194 v_trail_194 v_choices_194 v_now_194 v_spot_194 v_slotNow_194 v_textNow_194 v_longNow_194 v_steps_194 v_limit_194 v_isOver_194 v_stamp_194 v_act_194 v_actA_194 v_actB_194 v_labelAt_194 v_task_194 v_taskA_194 v_taskB_194 v_held_194 v_reg_194 v_trailOf_194 v_trailOld_194 v_choiceSort_194 v_choiceAct_194 v_choicePlace_194 v_choiceTrail_194 v_seen_194 v_found_194 f53 f54 f55 f56 f57 h58 h59 h60 hm_194
                              exfalso; omega
                            | succ n_194 ih_194 =>
                              intro l8_194 l9_194 l10_194 v_acts_194 v_labels_194 v_tasks_194 v_trail_194 v_choices_194 v_now_194 v_spot_194 v_slotNow_194 v_textNow_194 v_longNow_194 v_steps_194 v_limit_194 v_isOver_194 v_stamp_194 v_act_194 v_actA_194 v_actB_194 v_labelAt_194 v_task_194 v_taskA_194 v_taskB_194 v_held_194 v_reg_194 v_trailOf_194 v_trailOld_194 v_choiceSort_194 v_choiceAct_194 v_choicePlace_194 v_choiceTrail_194 v_seen_194 v_found_194 f53 f54 f55 f56 f57 h58 h59 h60 hm_194
                              unfold w_X12_first_194
                              unfold w_X12_first_194B
                              refine ⟨fun c198 => ?_, fun c198 => ?_⟩
                              · have f61 : 6 ≤ l10_194.toInt := i_le (a := 6) (b := l10_194.toInt) rfl rfl c198
                                exact hq l8_194 0 r64_0 v_acts_194 v_labels_194 v_tasks_194 v_trail_194 v_choices_194 v_now_194 v_spot_194 v_slotNow_194 v_textNow_194 v_longNow_194 v_steps_194 v_limit_194 v_isOver_194 v_stamp_194 false v_act_194 v_actA_194 v_actB_194 v_labelAt_194 v_task_194 v_taskA_194 v_taskB_194 v_held_194 v_reg_194 v_trailOf_194 v_trailOld_194 v_choiceSort_194 v_choiceAct_194 v_choicePlace_194 v_choiceTrail_194 v_seen_194 v_found_194 (by omega) (by omega) (by omega) (rp_mono h58 (by omega) (by omega)) (rp_mono h58 (by omega) (by omega)) (rp_mono h60 (by omega) (by omega)) (by exact zGi_n rfl)
                              · have f62 : l10_194.toInt < 6 := i_nle (a := 6) (b := l10_194.toInt) rfl rfl c198
                                intro x204 ex204
                                intro x206 ex206
                                have f63 : (0 ≤ x206.toInt ∧ x206.toInt ≤ 1) := i_andr ex206 (by decide)
                                have j_289 : ∀ (l8_289 : Int32) (l9_289 : Int32) (v_acts_289 : Int32) (v_labels_289 : Int32) (v_tasks_289 : Int32) (v_trail_289 : Int32) (v_choices_289 : Int32) (v_now_289 : Int32) (v_spot_289 : Int32) (v_slotNow_289 : Int32) (v_textNow_289 : Int32) (v_longNow_289 : Int32) (v_steps_289 : Int32) (v_limit_289 : Int32) (v_isOver_289 : Bool) (v_stamp_289 : Int32) (v_act_289 : Nat → Int32) (v_actA_289 : Nat → Int32) (v_actB_289 : Nat → Int32) (v_labelAt_289 : Nat → Int32) (v_task_289 : Nat → Int32) (v_taskA_289 : Nat → Int32) (v_taskB_289 : Nat → Int32) (v_held_289 : Nat → Int32) (v_reg_289 : Nat → Int32) (v_trailOf_289 : Nat → Int32) (v_trailOld_289 : Nat → Int32) (v_choiceSort_289 : Nat → Int32) (v_choiceAct_289 : Nat → Int32) (v_choicePlace_289 : Nat → Int32) (v_choiceTrail_289 : Nat → Int32) (v_seen_289 : Nat → Int32) (v_found_289 : Nat → Int32), l8_289.toInt ≤ l8_194.toInt + 6 → l9_289.toInt ≤ l9_194.toInt → 0 ≤ l8_289.toInt + 1 → l8_289.toInt ≤ 5 → rp (fun k v => 0 ≤ v ∧ v ≤ 1129) v_trailOf_289 0 v_trail_289.toInt → rp (fun k v => 0 ≤ v ∧ v ≤ 1129) v_trailOf_289 (l8_194.toInt + 1) v_trail_289.toInt → rp (fun k v => 0 ≤ v ∧ v ≤ 1129) v_trailOf_289 (l8_289.toInt + 1) v_trail_289.toInt → rp (fun k v => 0 ≤ v ∧ v ≤ 1129) v_trailOf_289 l10_194.toInt v_trail_289.toInt → w_X12_first_289 Q (w_X12_first_194 p1 p2 p3 p4 v_sort v_value v_least v_most v_parts v_end v_firstPart v_inCase v_partBegin v_partEnd v_long0 v_signs Q 0 r64_0 false n_194) l8_289 l9_289 l10_194 v_acts_289 v_labels_289 v_tasks_289 v_trail_289 v_choices_289 v_now_289 v_spot_289 v_slotNow_289 v_textNow_289 v_longNow_289 v_steps_289 v_limit_289 v_isOver_289 v_stamp_289 v_act_289 v_actA_289 v_actB_289 v_labelAt_289 v_task_289 v_taskA_289 v_taskB_289 v_held_289 v_reg_289 v_trailOf_289 v_trailOld_289 v_choiceSort_289 v_choiceAct_289 v_choicePlace_289 v_choiceTrail_289 v_seen_289 v_found_289 := by
                                  intro l8_289 l9_289 v_acts_289 v_labels_289 v_tasks_289 v_trail_289 v_choices_289 v_now_289 v_spot_289 v_slotNow_289 v_textNow_289 v_longNow_289 v_steps_289 v_limit_289 v_isOver_289 v_stamp_289 v_act_289 v_actA_289 v_actB_289 v_labelAt_289 v_task_289 v_taskA_289 v_taskB_289 v_held_289 v_reg_289 v_trailOf_289 v_trailOld_289 v_choiceSort_289 v_choiceAct_289 v_choicePlace_289 v_choiceTrail_289 v_seen_289 v_found_289 f64 f65 f66 f67 h68 h69 h70 h71
                                  unfold w_X12_first_289
                                  intro x289 ex289
                                  have f72 : x289.toInt = l10_194.toInt + 1 := i_add (a := l10_194.toInt) (b := 1) ex289 rfl rfl (by omega) (by omega)
                                  exact ih_194 l8_289 l9_289 x289 v_acts_289 v_labels_289 v_tasks_289 v_trail_289 v_choices_289 v_now_289 v_spot_289 v_slotNow_289 v_textNow_289 v_longNow_289 v_steps_289 v_limit_289 v_isOver_289 v_stamp_289 v_act_289 v_actA_289 v_actB_289 v_labelAt_289 v_task_289 v_taskA_289 v_taskB_289 v_held_289 v_reg_289 v_trailOf_289 v_trailOld_289 v_choiceSort_289 v_choiceAct_289 v_choicePlace_289 v_choiceTrail_289 v_seen_289 v_found_289  (by omega) (by omega) (by omega) (by omega) (by omega) (rp_mono h68 (by omega) (by omega)) (rp_mono h70 (by omega) (by omega)) (rp_mono h71 (by omega) (by omega)) (by have h8_0 := i_rng l10_194; have h8_1 := i_rng x289; omega)
                                refine ⟨fun c208 => ?_, fun c208 => ?_⟩
                                · have f73 : x206.toInt ≠ 1 := i_ne (a := x206.toInt) (b := 1) rfl rfl c208
                                  exact j_289 l8_194 l9_194 v_acts_194 v_labels_194 v_tasks_194 v_trail_194 v_choices_194 v_now_194 v_spot_194 v_slotNow_194 v_textNow_194 v_longNow_194 v_steps_194 v_limit_194 v_isOver_194 v_stamp_194 v_act_194 v_actA_194 v_actB_194 v_labelAt_194 v_task_194 v_taskA_194 v_taskB_194 v_held_194 v_reg_194 v_trailOf_194 v_trailOld_194 v_choiceSort_194 v_choiceAct_194 v_choicePlace_194 v_choiceTrail_194 v_seen_194 v_found_194 (by omega) (by omega) (by omega) (by omega) (rp_mono h58 (by omega) (by omega)) (rp_mono h59 (by omega) (by omega)) (rp_mono h59 (by omega) (by omega)) (rp_mono h60 (by omega) (by omega))
                                · have f74 : x206.toInt = 1 := i_eq (a := x206.toInt) (b := 1) rfl rfl c208
                                  have hz9 := zbt_y ex204 ex206 (by omega)
                                  have hSM := zAll_s u0 (u27_0 l10_194 (by omega) (by omega) hz9) (by omega) (by omega)
                                  have hS := hSM.1
                                  have hM := hSM.2
                                  have f75 : 1 ≤ (zg v_many l10_194.toInt : Int) := (zS_n hS).1
                                  have f76 : (zg v_many l10_194.toInt : Int) ≤ 220 := (zS_n hS).2
                                  have hq9 := hB9 l10_194 (by omega) (by omega) hz9
                                  have hCm := zCm (m := p4.toInt) hS hM hq9.1 hq9.2
                                  have j_224 : ∀ (s0_224 : Int32), 0 ≤ s0_224.toInt + 9 → s0_224.toInt ≤ 6 → ((s0_224.toInt = 0 ∧ p4.toInt ≤ 0) ∨ (s0_224.toInt = 1 ∧ 1 ≤ p4.toInt)) → ((zfi p4.toInt = 1 ∧ s0_224.toInt ≠ 0) ∨ (zfi p4.toInt = 0 ∧ s0_224.toInt = 0)) → w_X12_first_224 p2 p3 p4 v_sort v_value v_least v_most v_parts v_end v_firstPart v_inCase v_partBegin v_partEnd v_long0 v_signs 0 r64_0 false Q (w_X12_first_194 p1 p2 p3 p4 v_sort v_value v_least v_most v_parts v_end v_firstPart v_inCase v_partBegin v_partEnd v_long0 v_signs Q 0 r64_0 false n_194) s0_224 l10_194 l8_194 l9_194 l10_194 v_acts_194 v_labels_194 v_tasks_194 v_trail_194 v_choices_194 v_now_194 v_spot_194 v_slotNow_194 v_textNow_194 v_longNow_194 v_steps_194 v_limit_194 v_isOver_194 v_stamp_194 v_act_194 v_actA_194 v_actB_194 v_labelAt_194 v_task_194 v_taskA_194 v_taskB_194 v_held_194 v_reg_194 v_trailOf_194 v_trailOld_194 v_choiceSort_194 v_choiceAct_194 v_choicePlace_194 v_choiceTrail_194 v_seen_194 v_found_194 := by
                                    intro s0_224 f77 f78 f79 u224_0
                                    unfold w_X12_first_224
                                    have hf9 := u224_0
                                    refine ok_X12_compile (gZ := (zzz p4.toInt v_end v_size (220 * l10_194.toInt))) (gfi := (zfi p4.toInt)) (v_holder := v_holder) (v_parts := v_parts) (v_firstPart := v_firstPart) (v_partBegin := v_partBegin) (v_partEnd := v_partEnd) (v_acts := v_acts_194) (v_labels := v_labels_194) (v_tasks := v_tasks_194) (v_many := v_many) (v_captures := v_captures) (gP := (fun _ => 0)) (gE := 0) (by omega) (by omega) (by omega) (by omega) (by exact hS) (by exact hCm.1) (by exact hCm.2.1) (by exact hf9) (by exact hCm.2.2) (by exact fun z => absurd z (by decide)) (fun r224_0 r224_1 r224_2 r224_3 r224_4 r224_5 r224_6 r224_7 r224_8 r224_9 r224_10 f80 f81 f82 f83 f84 f85 f86 f87 u224_0 u224_1 => ?_)
                                    have j_243 : ∀ (s0_243 : Int32), 0 ≤ s0_243.toInt + 9 → s0_243.toInt ≤ 6 → ((s0_243.toInt = 0 ∧ p4.toInt ≤ 0) ∨ (s0_243.toInt = 1 ∧ 1 ≤ p4.toInt)) → ((zfi p4.toInt = 1 ∧ s0_243.toInt ≠ 0) ∨ (zfi p4.toInt = 0 ∧ s0_243.toInt = 0)) → w_X12_first_243 v_sort v_value v_least v_most v_parts v_firstPart v_inCase v_partBegin v_partEnd v_long0 v_signs 0 r64_0 false Q (w_X12_first_194 p1 p2 p3 p4 v_sort v_value v_least v_most v_parts v_end v_firstPart v_inCase v_partBegin v_partEnd v_long0 v_signs Q 0 r64_0 false n_194) s0_243 0 p3 p2 l10_194 l8_194 l9_194 l10_194 r224_0 r224_1 r224_2 v_trail_194 v_choices_194 v_now_194 v_spot_194 v_slotNow_194 v_textNow_194 v_longNow_194 v_steps_194 v_limit_194 v_isOver_194 v_stamp_194 r224_3 r224_4 r224_5 r224_6 r224_7 r224_8 r224_9 r224_10 v_reg_194 v_trailOf_194 v_trailOld_194 v_choiceSort_194 v_choiceAct_194 v_choicePlace_194 v_choiceTrail_194 v_seen_194 v_found_194 := by
                                      intro s0_243 f88 f89 f90 u243_0
                                      unfold w_X12_first_243
                                      refine ok_X12_searched (gfi := (zfi p4.toInt)) (gN := r224_0.toInt) (v_holder := v_holder) (v_end := v_end) (v_many := v_many) (v_captures := v_captures) (v_steps := v_steps_194) (by omega) (by omega) (by omega) (by omega) (by omega) (by omega) (by omega) (by omega) (by omega) (by omega) (by omega) (rp_mono b0 (by omega) (by omega)) (rp_mono b1 (by omega) (by omega)) (rp_mono h58 (by omega) (by omega)) (by exact u224_0) (by exact hS) (by exact u243_0) (by omega) (fun r246 r246_0 r246_1 r246_2 r246_3 r246_4 r246_5 r246_6 r246_7 r246_8 r246_9 r246_10 r246_11 r246_12 r246_13 r246_14 r246_15 r246_16 r246_17 r246_18 r246_19 f91 f92 f93 f94 f95 f96 f97 f98 f99 f100 f101 f102 f103 f104 h105 h106 u246_0 => ?_)
                                      refine ⟨fun c254 => ?_, fun c254 => ?_⟩
                                      · have f107 : r246.toInt ≠ 2 := i_ne (a := r246.toInt) (b := 2) rfl rfl c254
                                        refine ⟨fun c263 => ?_, fun c263 => ?_⟩
                                        · have f108 : r246.toInt ≠ 1 := i_ne (a := r246.toInt) (b := 1) rfl rfl c263
                                          exact j_289 l8_194 l9_194 r224_0 r224_1 r224_2 r246_0 r246_1 r246_2 r246_3 r246_4 r246_5 r246_6 r246_7 r246_8 r246_9 r246_10 r224_3 r224_4 r224_5 r224_6 r224_7 r224_8 r224_9 r224_10 r246_11 r246_12 r246_13 r246_14 r246_15 r246_16 r246_17 r246_18 r246_19 (by omega) (by omega) (by omega) (by omega) (rp_mono h106 (by omega) (by omega)) (rp_mono h106 (by omega) (by omega)) (rp_mono h106 (by omega) (by omega)) (rp_mono h106 (by omega) (by omega))
                                        · have f109 : r246.toInt = 1 := i_eq (a := r246.toInt) (b := 1) rfl rfl c263
                                          intro x271 ex271
                                          refine ⟨fun c274 => ?_, fun c274 => ?_⟩
                                          · have f110 : l9_194.toInt ≤ x271.toInt := i_le (a := l9_194.toInt) (b := x271.toInt) rfl rfl c274
                                            exact j_289 l8_194 l9_194 r224_0 r224_1 r224_2 r246_0 r246_1 r246_2 r246_3 r246_4 r246_5 r246_6 r246_7 r246_8 r246_9 r246_10 r224_3 r224_4 r224_5 r224_6 r224_7 r224_8 r224_9 r224_10 r246_11 r246_12 r246_13 r246_14 r246_15 r246_16 r246_17 r246_18 r246_19 (by omega) (by omega) (by omega) (by omega) (rp_mono h105 (by omega) (by omega)) (rp_mono h105 (by omega) (by omega)) (rp_mono h105 (by omega) (by omega)) (rp_mono h105 (by omega) (by omega))
                                          · have f111 : x271.toInt < l9_194.toInt := i_nle (a := l9_194.toInt) (b := x271.toInt) rfl rfl c274
                                            intro x286 ex286
                                            have f112 : x286.toInt = x271.toInt := congrArg Int32.toInt (ex286.trans ex271.symm)
                                            exact j_289 l10_194 x286 r224_0 r224_1 r224_2 r246_0 r246_1 r246_2 r246_3 r246_4 r246_5 r246_6 r246_7 r246_8 r246_9 r246_10 r224_3 r224_4 r224_5 r224_6 r224_7 r224_8 r224_9 r224_10 r246_11 r246_12 r246_13 r246_14 r246_15 r246_16 r246_17 r246_18 r246_19 (by omega) (by omega) (by omega) (by omega) (rp_mono h105 (by omega) (by omega)) (rp_mono h105 (by omega) (by omega)) (rp_mono h106 (by omega) (by omega)) (rp_mono h105 (by omega) (by omega))
                                      · have f113 : r246.toInt = 2 := i_eq (a := r246.toInt) (b := 2) rfl rfl c254
                                        exact hq (-8) 0 r64_0 r224_0 r224_1 r224_2 r246_0 r246_1 r246_2 r246_3 r246_4 r246_5 r246_6 r246_7 r246_8 r246_9 r246_10 false r224_3 r224_4 r224_5 r224_6 r224_7 r224_8 r224_9 r224_10 r246_11 r246_12 r246_13 r246_14 r246_15 r246_16 r246_17 r246_18 r246_19 (by omega) (by omega) (by omega) (rp_mono h105 (by omega) (by omega)) (rp_mono h105 (by omega) (by omega)) (rp_mono h105 (by omega) (by omega)) (by exact zGi_n rfl)
                                    refine ⟨fun c235 => ?_, fun c235 => ?_⟩
                                    · have f114 : p4.toInt ≤ 0 := i_le (a := p4.toInt) (b := 0) rfl rfl c235
                                      exact j_243 0 (by omega) (by omega) (by omega) (by first | exact Or.inl ⟨zfi_1 (by omega), by decide⟩ | exact Or.inr ⟨zfi_0 (by omega), rfl⟩)
                                    · have f115 : 0 < p4.toInt := i_nle (a := p4.toInt) (b := 0) rfl rfl c235
                                      exact j_243 1 (by omega) (by omega) (by omega) (by first | exact Or.inl ⟨zfi_1 (by omega), by decide⟩ | exact Or.inr ⟨zfi_0 (by omega), rfl⟩)
                                  refine ⟨fun c216 => ?_, fun c216 => ?_⟩
                                  · have f116 : p4.toInt ≤ 0 := i_le (a := p4.toInt) (b := 0) rfl rfl c216
                                    exact j_224 0 (by omega) (by omega) (by omega) (by first | exact Or.inl ⟨zfi_1 (by omega), by decide⟩ | exact Or.inr ⟨zfi_0 (by omega), rfl⟩)
                                  · have f117 : 0 < p4.toInt := i_nle (a := p4.toInt) (b := 0) rfl rfl c216
                                    exact j_224 1 (by omega) (by omega) (by omega) (by first | exact Or.inl ⟨zfi_1 (by omega), by decide⟩ | exact Or.inr ⟨zfi_0 (by omega), rfl⟩)
                          exact ⟨(6 : Int).toNat + 1, j_194   ((6 : Int).toNat + 1) (-1) 101 0 v_acts v_labels v_tasks v_trail v_choices v_now v_spot v_slotNow v_textNow v_longNow v_steps v_limit v_isOver v_stamp v_act v_actA v_actB v_labelAt v_task v_taskA v_taskB v_held v_reg v_trailOf v_trailOld v_choiceSort v_choiceAct v_choicePlace v_choiceTrail v_seen v_found  (by omega) (by omega) (by omega) (by omega) (by omega) (rp_mono b2 (by omega) (by omega)) (rp_mono b2 (by omega) (by omega)) (rp_mono b2 (by omega) (by omega)) (by omega)⟩
                        · have f118 : l6_107.toInt ≠ 0 := i_ne (a := l6_107.toInt) (b := 0) rfl rfl c163
                          exact j_166  
                    · have f119 : l8_107.toInt < 6 := i_nle (a := 6) (b := l8_107.toInt) rfl rfl c111
                      intro x117 ex117
                      intro x119 ex119
                      have f120 : (0 ≤ x119.toInt ∧ x119.toInt ≤ 1) := i_andr ex119 (by decide)
                      have j_150 : ∀ (l5_150 : Int32) (l6_150 : Int32), l5_150.toInt ≤ l5_107.toInt → l6_150.toInt ≤ l6_107.toInt → ((l5_150.toInt = l5_107.toInt ∧ l6_150.toInt = l6_107.toInt) ∨ (x119.toInt = 1)) → (l5_150.toInt = 0 → l6_150.toInt = 0 → (l5_107.toInt = 0 ∧ l6_107.toInt = 0 ∧ (zbt p1 l8_107 → (fun s : Int32 => (1 ≤ p4.toInt → zKb v_sort (220 * s.toInt) (zg v_many s.toInt)) ∧ (1 ≤ p4.toInt → zg v_size (220 * s.toInt) ≤ 200)) l8_107))) → ((l5_150.toInt ≤ 0 ∧ 0 ≤ l5_150.toInt + 6 * l8_107.toInt + 6) ∧ (l6_150.toInt ≤ 0 ∧ 0 ≤ l6_150.toInt + 7 * l8_107.toInt + 7)) → w_X12_first_150 Q (w_X12_first_107 p1 p2 p3 p4 v_many v_sort v_value v_least v_most v_parts v_end v_size v_positions v_firstPart v_mayEmpty v_inCase v_partBegin v_partEnd v_long0 v_signs Q 0 r64_0 v_acts v_labels v_tasks v_trail v_choices v_now v_spot v_slotNow v_textNow v_longNow v_steps v_limit v_isOver v_stamp v_isGoing v_act v_actA v_actB v_labelAt v_task v_taskA v_taskB v_held v_reg v_trailOf v_trailOld v_choiceSort v_choiceAct v_choicePlace v_choiceTrail v_seen v_found n_107) l5_150 l6_150 l8_107 := by
                        intro l5_150 l6_150 f121 f122 f123 u150_0 u150_1
                        unfold w_X12_first_150
                        have f124 : l5_150.toInt ≤ 0 := by omega
                        have f125 : 0 ≤ l5_150.toInt + 6 * l8_107.toInt + 6 := by omega
                        have f126 : l6_150.toInt ≤ 0 := by omega
                        have f127 : 0 ≤ l6_150.toInt + 7 * l8_107.toInt + 7 := by omega
                        intro x150 ex150
                        have f128 : x150.toInt = l8_107.toInt + 1 := i_add (a := l8_107.toInt) (b := 1) ex150 rfl rfl (by omega) (by omega)
                        exact ih_107 l5_150 l6_150 x150  (by omega) (by omega) (by omega) (by omega) (by omega) (by first | exact fun _ _ => zBt_0 (by decide) | exact fun a b => zBt_s (u107_0 (u150_0 a b).1 (u150_0 a b).2.1) (u150_0 a b).2.2 (by omega)) (by have h8_0 := i_rng l8_107; have h8_1 := i_rng x150; omega)
                      refine ⟨fun c121 => ?_, fun c121 => ?_⟩
                      · have f129 : x119.toInt ≠ 1 := i_ne (a := x119.toInt) (b := 1) rfl rfl c121
                        exact j_150 l5_107 l6_107 (by omega) (by omega) (by omega) (by first | exact fun a b => ⟨a, b, fun z => absurd z (zbt_n ex117 ex119 (by omega))⟩ | exact fun a b => ⟨by omega, by omega, fun _ => ⟨u131_0 (by omega), (u144_0 (by omega)).1⟩⟩) (by omega)
                      · have f130 : x119.toInt = 1 := i_eq (a := x119.toInt) (b := 1) rfl rfl c121
                        have hSM := zAll_s u0 (u27_0 l8_107 (by omega) (by omega) (zbt_y ex117 ex119 (by omega))) (by omega) (by omega)
                        have hS := hSM.1
                        have hM := hSM.2
                        have f131 : 1 ≤ (zg v_many l8_107.toInt : Int) := (zS_n hS).1
                        have f132 : (zg v_many l8_107.toInt : Int) ≤ 220 := (zS_n hS).2
                        refine ok_X12_kindBars (v_holder := v_holder) (v_parts := v_parts) (v_end := v_end) (v_firstPart := v_firstPart) (v_partBegin := v_partBegin) (v_partEnd := v_partEnd) (v_captures := v_captures) (by omega) (by omega) (by exact hS) (fun r131 f133 u131_0 => ?_)
                        intro x134 ex134
                        have f134 : x134.toInt = l5_107.toInt + r131.toInt := i_add (a := l5_107.toInt) (b := r131.toInt) ex134 rfl rfl (by omega) (by omega)
                        refine ok_X12_sizeBars (by omega) (by omega) (fun r144 f135 f136 u144_0 => ?_)
                        intro x147 ex147
                        have f137 : x147.toInt = l6_107.toInt + r144.toInt := i_add (a := l6_107.toInt) (b := r144.toInt) ex147 rfl rfl (by omega) (by omega)
                        exact j_150 x134 x147 (by omega) (by omega) (by omega) (by first | exact fun a b => ⟨a, b, fun z => absurd z (zbt_n ex117 ex119 (by omega))⟩ | exact fun a b => ⟨by omega, by omega, fun _ => ⟨u131_0 (by omega), (u144_0 (by omega)).1⟩⟩) (by omega)
                exact ⟨(6 : Int).toNat + 1, j_107   ((6 : Int).toNat + 1) 0 0 0  (by omega) (by omega) (by omega) (by omega) (by omega) (by first | exact fun _ _ => zBt_0 (by decide) | exact fun a b => zBt_s (u107_0 (u150_0 a b).1 (u150_0 a b).2.1) (u150_0 a b).2.2 (by omega)) (by omega)⟩
              · have f138 : r95.toInt = 0 := i_eq (a := r95.toInt) (b := 0) rfl rfl c98
                exact j_101  
          · have f139 : r64.toInt ≠ 0 := i_ne (a := r64.toInt) (b := 0) rfl rfl c71
            exact hq r64 0 r64_0 v_acts v_labels v_tasks v_trail v_choices v_now v_spot v_slotNow v_textNow v_longNow v_steps v_limit v_isOver v_stamp v_isGoing v_act v_actA v_actB v_labelAt v_task v_taskA v_taskB v_held v_reg v_trailOf v_trailOld v_choiceSort v_choiceAct v_choicePlace v_choiceTrail v_seen v_found (by omega) (by omega) (by omega) (rp_mono b2 (by omega) (by omega)) (rp_mono b2 (by omega) (by omega)) (rp_mono b2 (by omega) (by omega)) (by exact u1)
        · have f140 : l7_27.toInt < 6 := i_nle (a := 6) (b := l7_27.toInt) rfl rfl c31
          intro x37 ex37
          intro x39 ex39
          have f141 : (0 ≤ x39.toInt ∧ x39.toInt ≤ 1) := i_andr ex39 (by decide)
          have j_56 : ∀ (v_finding_56 : Int32), v_finding.toInt ≤ v_finding_56.toInt → v_finding_56.toInt ≤ v_finding.toInt → ((v_finding_56.toInt = v_finding_27.toInt) ∨ (x39.toInt = 1)) → (zbt p1 l7_27 → v_isThere l7_27.toNatClampNeg = true) → w_X12_first_56 Q (w_X12_first_27 p1 p2 p3 p4 v_isThere v_many v_sort v_value v_least v_most v_parts v_end v_size v_positions v_firstPart v_mayEmpty v_inCase v_partBegin v_partEnd v_isSubject v_long0 v_signs Q 0 0 0 v_acts v_labels v_tasks v_trail v_choices v_now v_spot v_slotNow v_textNow v_longNow v_steps v_limit v_isOver v_stamp v_isGoing v_act v_actA v_actB v_labelAt v_task v_taskA v_taskB v_held v_reg v_trailOf v_trailOld v_choiceSort v_choiceAct v_choicePlace v_choiceTrail v_seen v_found n_27) l7_27 v_finding_56 := by
            intro v_finding_56 f142 f143 f144 u56_0
            unfold w_X12_first_56
            intro x56 ex56
            have f145 : x56.toInt = l7_27.toInt + 1 := i_add (a := l7_27.toInt) (b := 1) ex56 rfl rfl (by omega) (by omega)
            exact ih_27 x56 v_finding_56  (by omega) (by omega) (by omega) (by omega) (by first | exact zBt_0 (by decide) | exact zBt_s u27_0 u56_0 (by omega)) (by have h8_0 := i_rng l7_27; have h8_1 := i_rng x56; omega)
          refine ⟨fun c41 => ?_, fun c41 => ?_⟩
          · have f146 : x39.toInt ≠ 1 := i_ne (a := x39.toInt) (b := 1) rfl rfl c41
            exact j_56 v_finding_27 (by omega) (by omega) (by omega) (by first | exact fun z => absurd z (zbt_n ex37 ex39 (by omega)) | exact fun _ => u47_0 (by omega))
          · have f147 : x39.toInt = 1 := i_eq (a := x39.toInt) (b := 1) rfl rfl c41
            refine ok_X12_wrongSlot  (fun r47 r47_0 f148 f149 f150 u47_0 => ?_)
            refine ⟨fun c50 => ?_, fun c50 => ?_⟩
            · have f151 : r47.toInt = 0 := i_eq (a := r47.toInt) (b := 0) rfl rfl c50
              exact j_56 r47_0 (by omega) (by omega) (by omega) (by first | exact fun z => absurd z (zbt_n ex37 ex39 (by omega)) | exact fun _ => u47_0 (by omega))
            · have f152 : r47.toInt ≠ 0 := i_ne (a := r47.toInt) (b := 0) rfl rfl c50
              exact hq (-2) 0 r47_0 v_acts v_labels v_tasks v_trail v_choices v_now v_spot v_slotNow v_textNow v_longNow v_steps v_limit v_isOver v_stamp v_isGoing v_act v_actA v_actB v_labelAt v_task v_taskA v_taskB v_held v_reg v_trailOf v_trailOld v_choiceSort v_choiceAct v_choicePlace v_choiceTrail v_seen v_found (by omega) (by omega) (by omega) (rp_mono b2 (by omega) (by omega)) (rp_mono b2 (by omega) (by omega)) (rp_mono b2 (by omega) (by omega)) (by exact u1)
    exact ⟨(6 : Int).toNat + 1, j_27   ((6 : Int).toNat + 1) 0 v_finding  (by omega) (by omega) (by omega) (by omega) (by first | exact zBt_0 (by decide) | exact zBt_s u27_0 u56_0 (by omega)) (by omega)⟩
  · have f153 : r9.toInt = 0 := i_eq (a := r9.toInt) (b := 0) rfl rfl c12
    exact hq (-2) 0 v_finding v_acts v_labels v_tasks v_trail v_choices v_now v_spot v_slotNow v_textNow v_longNow v_steps v_limit v_isOver v_stamp v_isGoing v_act v_actA v_actB v_labelAt v_task v_taskA v_taskB v_held v_reg v_trailOf v_trailOld v_choiceSort v_choiceAct v_choicePlace v_choiceTrail v_seen v_found (by omega) (by omega) (by omega) (rp_mono b2 (by omega) (by omega)) (rp_mono b2 (by omega) (by omega)) (rp_mono b2 (by omega) (by omega)) (by exact u1)
set_option maxHeartbeats 4000000 in
theorem ok_X12_replace {p1 : Int32} {p2 : Int32} {p3 : Int32} {v_finding : Int32} {v_taped : Int32} {v_outMany : Int32} {v_outNumbers : Bool} {v_acts : Int32} {v_labels : Int32} {v_tasks : Int32} {v_trail : Int32} {v_choices : Int32} {v_now : Int32} {v_spot : Int32} {v_slotNow : Int32} {v_textNow : Int32} {v_longNow : Int32} {v_steps : Int32} {v_limit : Int32} {v_isOver : Bool} {v_stamp : Int32} {v_isGoing : Bool} {v_findMany : Int32} {v_madeMany : Int32} {v_tape : Nat → Int32} {v_isThere : Nat → Bool} {v_many : Nat → Int32} {v_captures : Nat → Int32} {v_sort : Nat → Int32} {v_value : Nat → Int32} {v_least : Nat → Int32} {v_most : Nat → Int32} {v_parts : Nat → Int32} {v_end : Nat → Int32} {v_size : Nat → Int32} {v_positions : Nat → Int32} {v_firstPart : Nat → Int32} {v_mayEmpty : Nat → Bool} {v_inCase : Nat → Bool} {v_partBegin : Nat → Int32} {v_partEnd : Nat → Int32} {v_out : Nat → Int32} {v_isSubject : Nat → Bool} {v_long0 : Nat → Int32} {v_signs : Nat → Int32} {v_act : Nat → Int32} {v_actA : Nat → Int32} {v_actB : Nat → Int32} {v_labelAt : Nat → Int32} {v_task : Nat → Int32} {v_taskA : Nat → Int32} {v_taskB : Nat → Int32} {v_held : Nat → Int32} {v_reg : Nat → Int32} {v_trailOf : Nat → Int32} {v_trailOld : Nat → Int32} {v_choiceSort : Nat → Int32} {v_choiceAct : Nat → Int32} {v_choicePlace : Nat → Int32} {v_choiceTrail : Nat → Int32} {v_seen : Nat → Int32} {v_found : Nat → Int32} {v_finds : Nat → Int32} {v_madeSigns : Nat → Int32} {v_holder : Nat → Int32} {v_goSlot : Int32} {v_goSubject : Int32} {v_goFrom : Int32} {v_goSteps : Int32} {Q : Int32 → Int32 → Int32 → Int32 → Int32 → Bool → Int32 → Int32 → Int32 → Int32 → Int32 → Int32 → Int32 → Int32 → Int32 → Int32 → Int32 → Int32 → Bool → Int32 → Bool → Int32 → Int32 → (Nat → Int32) → (Nat → Int32) → (Nat → Int32) → (Nat → Int32) → (Nat → Int32) → (Nat → Int32) → (Nat → Int32) → (Nat → Int32) → (Nat → Int32) → (Nat → Int32) → (Nat → Int32) → (Nat → Int32) → (Nat → Int32) → (Nat → Int32) → (Nat → Int32) → (Nat → Int32) → (Nat → Int32) → (Nat → Int32) → (Nat → Int32) → (Nat → Int32) → Prop} (a0 : 0 ≤ v_taped.toInt) (a1 : v_taped.toInt ≤ 200) (a2 : 0 ≤ v_outMany.toInt) (a3 : v_outMany.toInt ≤ 400) (b0 : rp (fun k v => 32 ≤ v ∧ v ≤ 126) v_tape 0 v_taped.toInt) (b1 : rp (fun k v => 0 ≤ v ∧ v ≤ 100) v_long0 0 4) (b2 : rp (fun k v => 0 ≤ v ∧ v ≤ 65535) v_signs 0 400) (b3 : rp (fun k v => 0 ≤ v ∧ v ≤ 1129) v_trailOf 0 v_trail.toInt) (u0 : zAll v_isThere v_many v_captures v_sort v_value v_least v_most v_holder v_parts v_end v_firstPart v_partBegin v_partEnd v_size v_positions) (u1 : zGi v_isGoing v_isThere v_long0 v_goSlot.toInt v_goSubject.toInt v_goFrom.toInt v_goSteps.toInt) (hq : ∀ (r : Int32) (ov_thrown : Int32) (ov_finding : Int32) (ov_taped : Int32) (ov_outMany : Int32) (ov_outNumbers : Bool) (ov_acts : Int32) (ov_labels : Int32) (ov_tasks : Int32) (ov_trail : Int32) (ov_choices : Int32) (ov_now : Int32) (ov_spot : Int32) (ov_slotNow : Int32) (ov_textNow : Int32) (ov_longNow : Int32) (ov_steps : Int32) (ov_limit : Int32) (ov_isOver : Bool) (ov_stamp : Int32) (ov_isGoing : Bool) (ov_findMany : Int32) (ov_madeMany : Int32) (ov_out : Nat → Int32) (ov_act : Nat → Int32) (ov_actA : Nat → Int32) (ov_actB : Nat → Int32) (ov_labelAt : Nat → Int32) (ov_task : Nat → Int32) (ov_taskA : Nat → Int32) (ov_taskB : Nat → Int32) (ov_held : Nat → Int32) (ov_reg : Nat → Int32) (ov_trailOf : Nat → Int32) (ov_trailOld : Nat → Int32) (ov_choiceSort : Nat → Int32) (ov_choiceAct : Nat → Int32) (ov_choicePlace : Nat → Int32) (ov_choiceTrail : Nat → Int32) (ov_seen : Nat → Int32) (ov_found : Nat → Int32) (ov_finds : Nat → Int32) (ov_madeSigns : Nat → Int32), ov_thrown.toInt = 0 → ov_taped.toInt ≤ v_taped.toInt → 0 ≤ r.toInt + 9 → r.toInt ≤ 400 → 0 ≤ ov_taped.toInt → 0 ≤ ov_outMany.toInt → ov_outMany.toInt ≤ 400 → rp (fun k v => 0 ≤ v ∧ v ≤ 1129) ov_trailOf 0 ov_trail.toInt → rp (fun k v => 0 ≤ v ∧ v ≤ 1129) ov_trailOf ov_thrown.toInt ov_trail.toInt → rp (fun k v => 0 ≤ v ∧ v ≤ 1129) ov_trailOf (r.toInt + 9) ov_trail.toInt → rp (fun k v => 0 ≤ v ∧ v ≤ 1129) ov_trailOf ov_taped.toInt ov_trail.toInt → (zGi ov_isGoing v_isThere v_long0 v_goSlot.toInt v_goSubject.toInt v_goFrom.toInt v_goSteps.toInt) → Q r ov_thrown ov_finding ov_taped ov_outMany ov_outNumbers ov_acts ov_labels ov_tasks ov_trail ov_choices ov_now ov_spot ov_slotNow ov_textNow ov_longNow ov_steps ov_limit ov_isOver ov_stamp ov_isGoing ov_findMany ov_madeMany ov_out ov_act ov_actA ov_actB ov_labelAt ov_task ov_taskA ov_taskB ov_held ov_reg ov_trailOf ov_trailOld ov_choiceSort ov_choiceAct ov_choicePlace ov_choiceTrail ov_seen ov_found ov_finds ov_madeSigns) : w_X12_replace p1 p2 p3 v_finding v_taped v_outMany v_outNumbers v_acts v_labels v_tasks v_trail v_choices v_now v_spot v_slotNow v_textNow v_longNow v_steps v_limit v_isOver v_stamp v_isGoing v_findMany v_madeMany v_tape v_isThere v_many v_captures v_sort v_value v_least v_most v_parts v_end v_size v_positions v_firstPart v_mayEmpty v_inCase v_partBegin v_partEnd v_out v_isSubject v_long0 v_signs v_act v_actA v_actB v_labelAt v_task v_taskA v_taskB v_held v_reg v_trailOf v_trailOld v_choiceSort v_choiceAct v_choicePlace v_choiceTrail v_seen v_found v_finds v_madeSigns Q := by
  have q_t : (bz true).toInt = 1 := rfl
  have q_f : (bz false).toInt = 0 := rfl
  have q_m9 : ((-9) : Int32).toInt = (-9) := rfl
  have q_m5 : ((-5) : Int32).toInt = (-5) := rfl
  have q_m4 : ((-4) : Int32).toInt = (-4) := rfl
  have q_0 : (0 : Int32).toInt = 0 := rfl
  have q_2 : (2 : Int32).toInt = 2 := rfl
  have q_4 : (4 : Int32).toInt = 4 := rfl
  unfold w_X12_replace
  refine ok_X12_wrongBoth  (fun r8 r8_0 f1 f2 f3 f4 f5 u8_0 => ?_)
  have j_34 : ∀ (s0_34 : Int32), ((s0_34.toInt + 4 = 0 ∧ r8.toInt = 0) ∨ (s0_34.toInt = r8.toInt)) → (s0_34.toInt = 0 → (r8.toInt = 0 ∧ (0 ≤ p1.toInt ∧ p1.toInt ≤ 5) ∧ (0 ≤ p2.toInt ∧ p2.toInt ≤ 3) ∧ (0 ≤ p3.toInt ∧ p3.toInt ≤ 2))) → w_X12_replace_34 p1 p2 p3 v_tape v_many v_captures v_sort v_value v_least v_most v_parts v_end v_size v_positions v_firstPart v_mayEmpty v_inCase v_partBegin v_partEnd v_long0 v_signs Q s0_34 0 r8_0 v_taped v_outMany v_outNumbers v_acts v_labels v_tasks v_trail v_choices v_now v_spot v_slotNow v_textNow v_longNow v_steps v_limit v_isOver v_stamp v_isGoing v_findMany v_madeMany v_out v_act v_actA v_actB v_labelAt v_task v_taskA v_taskB v_held v_reg v_trailOf v_trailOld v_choiceSort v_choiceAct v_choicePlace v_choiceTrail v_seen v_found v_finds v_madeSigns := by
    intro s0_34 f6 u34_0
    unfold w_X12_replace_34
    have j_56 : ∀ (s0_56 : Int32), 0 ≤ s0_56.toInt + 5 → s0_56.toInt ≤ 0 → (s0_56.toInt = 0 → (r8.toInt = 0 ∧ ((0 ≤ p1.toInt ∧ p1.toInt ≤ 5) ∧ (0 ≤ p2.toInt ∧ p2.toInt ≤ 3) ∧ (0 ≤ p3.toInt ∧ p3.toInt ≤ 2)) ∧ zRq v_tape v_taped.toInt)) → w_X12_replace_56 p1 p2 p3 v_tape v_many v_sort v_value v_least v_most v_parts v_end v_size v_positions v_firstPart v_mayEmpty v_inCase v_partBegin v_partEnd v_long0 v_signs Q s0_56 0 r8_0 v_taped v_outMany v_outNumbers v_acts v_labels v_tasks v_trail v_choices v_now v_spot v_slotNow v_textNow v_longNow v_steps v_limit v_isOver v_stamp v_isGoing v_findMany v_madeMany v_out v_act v_actA v_actB v_labelAt v_task v_taskA v_taskB v_held v_reg v_trailOf v_trailOld v_choiceSort v_choiceAct v_choicePlace v_choiceTrail v_seen v_found v_finds v_madeSigns := by
      intro s0_56 f7 f8 u56_0
      unfold w_X12_replace_56
      have j_74 : ∀ (s0_74 : Int32), ((s0_74.toInt = s0_56.toInt) ∨ (s0_56.toInt = 0 ∧ 0 ≤ p1.toInt ∧ p1.toInt ≤ 5 ∧ 0 ≤ p2.toInt ∧ p2.toInt ≤ 3 ∧ 0 ≤ p3.toInt ∧ p3.toInt ≤ 2)) → 0 ≤ s0_74.toInt + 7 → s0_74.toInt ≤ 0 → (s0_74.toInt = 0 → (r8.toInt = 0 ∧ ((0 ≤ p1.toInt ∧ p1.toInt ≤ 5) ∧ (0 ≤ p2.toInt ∧ p2.toInt ≤ 3) ∧ (0 ≤ p3.toInt ∧ p3.toInt ≤ 2)) ∧ (zRq v_tape v_taped.toInt) ∧ (1 ≤ p3.toInt → zKb v_sort (220 * p1.toInt) (zg v_many p1.toInt)) ∧ (1 ≤ p3.toInt → zg v_size (220 * p1.toInt) ≤ 200))) → w_X12_replace_74 p1 p2 p3 v_tape v_sort v_value v_least v_most v_parts v_end v_firstPart v_inCase v_partBegin v_partEnd v_long0 v_signs Q s0_74 0 r8_0 v_taped v_outMany v_outNumbers v_acts v_labels v_tasks v_trail v_choices v_now v_spot v_slotNow v_textNow v_longNow v_steps v_limit v_isOver v_stamp v_isGoing v_findMany v_madeMany v_out v_act v_actA v_actB v_labelAt v_task v_taskA v_taskB v_held v_reg v_trailOf v_trailOld v_choiceSort v_choiceAct v_choicePlace v_choiceTrail v_seen v_found v_finds v_madeSigns := by
        intro s0_74 f9 f10 f11 u74_0
        unfold w_X12_replace_74
        have j_93 : ∀ (s0_93 : Int32) (v_acts_93 : Int32) (v_labels_93 : Int32) (v_tasks_93 : Int32) (v_trail_93 : Int32) (v_choices_93 : Int32) (v_now_93 : Int32) (v_spot_93 : Int32) (v_slotNow_93 : Int32) (v_textNow_93 : Int32) (v_longNow_93 : Int32) (v_steps_93 : Int32) (v_limit_93 : Int32) (v_isOver_93 : Bool) (v_stamp_93 : Int32) (v_isGoing_93 : Bool) (v_findMany_93 : Int32) (v_act_93 : Nat → Int32) (v_actA_93 : Nat → Int32) (v_actB_93 : Nat → Int32) (v_labelAt_93 : Nat → Int32) (v_task_93 : Nat → Int32) (v_taskA_93 : Nat → Int32) (v_taskB_93 : Nat → Int32) (v_held_93 : Nat → Int32) (v_reg_93 : Nat → Int32) (v_trailOf_93 : Nat → Int32) (v_trailOld_93 : Nat → Int32) (v_choiceSort_93 : Nat → Int32) (v_choiceAct_93 : Nat → Int32) (v_choicePlace_93 : Nat → Int32) (v_choiceTrail_93 : Nat → Int32) (v_seen_93 : Nat → Int32) (v_found_93 : Nat → Int32) (v_finds_93 : Nat → Int32), 0 ≤ s0_93.toInt + 8 → s0_93.toInt ≤ 0 → rp (fun k v => 0 ≤ v ∧ v ≤ 1129) v_trailOf_93 0 v_trail_93.toInt → rp (fun k v => 0 ≤ v ∧ v ≤ 1129) v_trailOf_93 (s0_93.toInt + 8) v_trail_93.toInt → (s0_93.toInt = 0 → (((0 ≤ p1.toInt ∧ p1.toInt ≤ 5) ∧ (0 ≤ p2.toInt ∧ p2.toInt ≤ 3) ∧ (0 ≤ p3.toInt ∧ p3.toInt ≤ 2)) ∧ (0 ≤ v_findMany_93.toInt ∧ v_findMany_93.toInt ≤ 101) ∧ (zRq v_tape v_taped.toInt) ∧ zFi v_finds_93 v_findMany_93.toInt (zg v_long0 p2.toInt))) → (zGi v_isGoing_93 v_isThere v_long0 v_goSlot.toInt v_goSubject.toInt v_goFrom.toInt v_goSteps.toInt) → w_X12_replace_93 p2 v_tape v_long0 v_signs Q s0_93 0 r8_0 v_taped v_outMany v_outNumbers v_acts_93 v_labels_93 v_tasks_93 v_trail_93 v_choices_93 v_now_93 v_spot_93 v_slotNow_93 v_textNow_93 v_longNow_93 v_steps_93 v_limit_93 v_isOver_93 v_stamp_93 v_isGoing_93 v_findMany_93 v_madeMany v_out v_act_93 v_actA_93 v_actB_93 v_labelAt_93 v_task_93 v_taskA_93 v_taskB_93 v_held_93 v_reg_93 v_trailOf_93 v_trailOld_93 v_choiceSort_93 v_choiceAct_93 v_choicePlace_93 v_choiceTrail_93 v_seen_93 v_found_93 v_finds_93 v_madeSigns := by
          intro s0_93 v_acts_93 v_labels_93 v_tasks_93 v_trail_93 v_choices_93 v_now_93 v_spot_93 v_slotNow_93 v_textNow_93 v_longNow_93 v_steps_93 v_limit_93 v_isOver_93 v_stamp_93 v_isGoing_93 v_findMany_93 v_act_93 v_actA_93 v_actB_93 v_labelAt_93 v_task_93 v_taskA_93 v_taskB_93 v_held_93 v_reg_93 v_trailOf_93 v_trailOld_93 v_choiceSort_93 v_choiceAct_93 v_choicePlace_93 v_choiceTrail_93 v_seen_93 v_found_93 v_finds_93 f12 f13 h14 h15 u93_0 u93_1
          unfold w_X12_replace_93
          refine ⟨fun c97 => ?_, fun c97 => ?_⟩
          · have f16 : s0_93.toInt = 0 := i_eq (a := s0_93.toInt) (b := 0) rfl rfl c97
            have h93 := u93_0 (by omega)
            obtain ⟨h931, h932, h933⟩ := h93
            have f17 : 0 ≤ p1.toInt := by omega
            have f18 : p1.toInt ≤ 5 := by omega
            have f19 : 0 ≤ p2.toInt := by omega
            have f20 : p2.toInt ≤ 3 := by omega
            have f21 : 0 ≤ p3.toInt := by omega
            have f22 : p3.toInt ≤ 2 := by omega
            have f23 : 0 ≤ v_findMany_93.toInt := by omega
            have f24 : v_findMany_93.toInt ≤ 101 := by omega
            have h93 := h933
            have hl9 := zl0 (k := p2.toInt) b1 (by omega) (by omega)
            have j_114 : ∀ n_114 : Nat, ∀ (l5_114 : Int32) (l6_114 : Int32) (v_madeMany_114 : Int32) (v_madeSigns_114 : Nat → Int32), v_madeMany_114.toInt ≤ 20200 * l6_114.toInt → 0 ≤ l5_114.toInt → l5_114.toInt ≤ 100 → l6_114.toInt ≤ v_findMany_93.toInt → 0 ≤ v_madeMany_114.toInt → ((-1) * l6_114.toInt + 2147483648).toNat < n_114 → w_X12_replace_114 p2 v_tape v_long0 v_signs Q 0 r8_0 v_taped v_outMany v_outNumbers v_acts_93 v_labels_93 v_tasks_93 v_trail_93 v_choices_93 v_now_93 v_spot_93 v_slotNow_93 v_textNow_93 v_longNow_93 v_steps_93 v_limit_93 v_isOver_93 v_stamp_93 v_isGoing_93 v_findMany_93 v_out v_act_93 v_actA_93 v_actB_93 v_labelAt_93 v_task_93 v_taskA_93 v_taskB_93 v_held_93 v_reg_93 v_trailOf_93 v_trailOld_93 v_choiceSort_93 v_choiceAct_93 v_choicePlace_93 v_choiceTrail_93 v_seen_93 v_found_93 v_finds_93 n_114 l5_114 l6_114 v_madeMany_114 v_madeSigns_114 := by
              intro n_114
              induction n_114 with
              | zero =>
                intro l5_114 l6_114 v_madeMany_114 v_madeSigns_114 f25 f26 f27 f28 f29 hm_114
                exfalso; omega
              | succ n_114 ih_114 =>
                intro l5_114 l6_114 v_madeMany_114 v_madeSigns_114 f25 f26 f27 f28 f29 hm_114
                unfold w_X12_replace_114
                unfold w_X12_replace_114B
                refine ⟨fun c120 => ?_, fun c120 => ?_⟩
                · have f30 : v_findMany_93.toInt ≤ l6_114.toInt := i_le (a := v_findMany_93.toInt) (b := l6_114.toInt) rfl rfl c120
                  refine ⟨i_in (by omega) (by omega), ?_⟩
                  intro x284 ex284
                  have f31 : 0 ≤ x284.toInt ∧ x284.toInt ≤ 100 := by have h9 := rp_get (P := (fun k v => 0 ≤ v ∧ v ≤ 100)) (a := p2.toInt) b1 ex284 rfl (by omega) (by omega) (by omega); omega
                  refine ok_X12_makePart (by omega) (by omega) (by omega) (by omega) (by omega) (by omega) (by omega) (rp_mono b2 (by omega) (by omega)) (fun r285_0 r285_1 f32 f33 f34 f35 f36 f37 => ?_)
                  refine ⟨fun c295 => ?_, fun c295 => ?_⟩
                  · have f38 : r285_0.toInt ≤ 400 := i_le (a := r285_0.toInt) (b := 400) rfl rfl c295
                    have j_309 : ∀ n_309 : Nat, ∀ (l6_309 : Int32) (v_out_309 : Nat → Int32), 0 ≤ l6_309.toInt → l6_309.toInt ≤ r285_0.toInt → ((-1) * l6_309.toInt + 2147483648).toNat < n_309 → w_X12_replace_309 Q 0 r8_0 v_taped v_outMany v_outNumbers v_acts_93 v_labels_93 v_tasks_93 v_trail_93 v_choices_93 v_now_93 v_spot_93 v_slotNow_93 v_textNow_93 v_longNow_93 v_steps_93 v_limit_93 v_isOver_93 v_stamp_93 v_isGoing_93 v_findMany_93 r285_0 v_act_93 v_actA_93 v_actB_93 v_labelAt_93 v_task_93 v_taskA_93 v_taskB_93 v_held_93 v_reg_93 v_trailOf_93 v_trailOld_93 v_choiceSort_93 v_choiceAct_93 v_choicePlace_93 v_choiceTrail_93 v_seen_93 v_found_93 v_finds_93 r285_1 n_309 l6_309 v_out_309 := by
                      intro n_309
                      induction n_309 with
                      | zero =>
                        intro l6_309 v_out_309 f39 f40 hm_309
                        exfalso; omega
                      | succ n_309 ih_309 =>
                        intro l6_309 v_out_309 f39 f40 hm_309
                        unfold w_X12_replace_309
                        unfold w_X12_replace_309B
                        refine ⟨fun c315 => ?_, fun c315 => ?_⟩
                        · have f41 : r285_0.toInt ≤ l6_309.toInt := i_le (a := r285_0.toInt) (b := l6_309.toInt) rfl rfl c315
                          exact hq r285_0 0 r8_0 0 r285_0 false v_acts_93 v_labels_93 v_tasks_93 v_trail_93 v_choices_93 v_now_93 v_spot_93 v_slotNow_93 v_textNow_93 v_longNow_93 v_steps_93 v_limit_93 v_isOver_93 v_stamp_93 v_isGoing_93 v_findMany_93 r285_0 v_out_309 v_act_93 v_actA_93 v_actB_93 v_labelAt_93 v_task_93 v_taskA_93 v_taskB_93 v_held_93 v_reg_93 v_trailOf_93 v_trailOld_93 v_choiceSort_93 v_choiceAct_93 v_choicePlace_93 v_choiceTrail_93 v_seen_93 v_found_93 v_finds_93 r285_1 (by omega) (by omega) (by omega) (by omega) (by omega) (by omega) (by omega) (rp_mono h14 (by omega) (by omega)) (rp_mono h14 (by omega) (by omega)) (rp_mono h15 (by omega) (by omega)) (rp_mono h14 (by omega) (by omega)) (by exact u93_1)
                        · have f42 : l6_309.toInt < r285_0.toInt := i_nle (a := r285_0.toInt) (b := l6_309.toInt) rfl rfl c315
                          refine ⟨i_in (by omega) (by omega), ?_⟩
                          intro x330 ex330
                          refine ⟨i_in (by omega) (by omega), ?_⟩
                          intro g331 eg331
                          intro x332 ex332
                          have f43 : x332.toInt = l6_309.toInt + 1 := i_add (a := l6_309.toInt) (b := 1) ex332 rfl rfl (by omega) (by omega)
                          exact ih_309 x332 g331  (by omega) (by omega) (by have h8_0 := i_rng l6_309; have h8_1 := i_rng x332; omega)
                    exact ⟨(2147483648 : Int).toNat + 1, j_309   ((2147483648 : Int).toNat + 1) 0 v_out  (by omega) (by omega) (by omega)⟩
                  · have f44 : 400 < r285_0.toInt := i_nle (a := r285_0.toInt) (b := 400) rfl rfl c295
                    exact hq (-9) 0 4 v_taped v_outMany v_outNumbers v_acts_93 v_labels_93 v_tasks_93 v_trail_93 v_choices_93 v_now_93 v_spot_93 v_slotNow_93 v_textNow_93 v_longNow_93 v_steps_93 v_limit_93 v_isOver_93 v_stamp_93 v_isGoing_93 v_findMany_93 r285_0 v_out v_act_93 v_actA_93 v_actB_93 v_labelAt_93 v_task_93 v_taskA_93 v_taskB_93 v_held_93 v_reg_93 v_trailOf_93 v_trailOld_93 v_choiceSort_93 v_choiceAct_93 v_choicePlace_93 v_choiceTrail_93 v_seen_93 v_found_93 v_finds_93 r285_1 (by omega) (by omega) (by omega) (by omega) (by omega) (by omega) (by omega) (rp_mono h14 (by omega) (by omega)) (rp_mono h14 (by omega) (by omega)) (rp_mono h14 (by omega) (by omega)) (rp_mono h14 (by omega) (by omega)) (by exact u93_1)
                · have f45 : l6_114.toInt < v_findMany_93.toInt := i_nle (a := v_findMany_93.toInt) (b := l6_114.toInt) rfl rfl c120
                  intro x135 ex135
                  have f46 : x135.toInt = 20 * l6_114.toInt := i_mul (a := 20) (b := l6_114.toInt) ex135 rfl rfl (by omega) (by omega)
                  refine ⟨i_in (by omega) (by omega), ?_⟩
                  intro x136 ex136
                  have f47 : (0 ≤ x136.toInt ∧ x136.toInt ≤ 100) := zFi_0f (f := l6_114.toInt) h93.2 ex136 (by omega) (by omega) (by omega) (by omega)
                  refine ok_X12_makePart (by omega) (by omega) (by omega) (by omega) (by omega) (by omega) (by omega) (rp_mono b2 (by omega) (by omega)) (fun r137_0 r137_1 f48 f49 f50 f51 f52 f53 => ?_)
                  have j_143 : ∀ n_143 : Nat, ∀ (l7_143 : Int32) (v_madeMany_143 : Int32) (v_madeSigns_143 : Nat → Int32), v_madeMany_143.toInt ≤ 20200 * l6_114.toInt + 100 * l7_143.toInt + 100 → 0 ≤ l7_143.toInt → l7_143.toInt ≤ 200 → 0 ≤ v_madeMany_143.toInt → (zRv v_tape l7_143.toInt) → ((-1) * l7_143.toInt + 2147483648).toNat < n_143 → w_X12_replace_143 p2 v_tape v_signs v_taped v_finds_93 Q (w_X12_replace_114 p2 v_tape v_long0 v_signs Q 0 r8_0 v_taped v_outMany v_outNumbers v_acts_93 v_labels_93 v_tasks_93 v_trail_93 v_choices_93 v_now_93 v_spot_93 v_slotNow_93 v_textNow_93 v_longNow_93 v_steps_93 v_limit_93 v_isOver_93 v_stamp_93 v_isGoing_93 v_findMany_93 v_out v_act_93 v_actA_93 v_actB_93 v_labelAt_93 v_task_93 v_taskA_93 v_taskB_93 v_held_93 v_reg_93 v_trailOf_93 v_trailOld_93 v_choiceSort_93 v_choiceAct_93 v_choicePlace_93 v_choiceTrail_93 v_seen_93 v_found_93 v_finds_93 n_114) l6_114 n_143 l7_143 v_madeMany_143 v_madeSigns_143 := by
                    intro n_143
                    induction n_143 with
                    | zero =>
                      intro l7_143 v_madeMany_143 v_madeSigns_143 f54 f55 f56 f57 u143_0 hm_143
                      exfalso; omega
                    | succ n_143 ih_143 =>
                      intro l7_143 v_madeMany_143 v_madeSigns_143 f54 f55 f56 f57 u143_0 hm_143
                      unfold w_X12_replace_143
                      unfold w_X12_replace_143B
                      refine ⟨fun c149 => ?_, fun c149 => ?_⟩
                      · have f58 : v_taped.toInt ≤ l7_143.toInt := i_le (a := v_taped.toInt) (b := l7_143.toInt) rfl rfl c149
                        intro x263 ex263
                        have f59 : x263.toInt = 20 * l6_114.toInt := i_mul (a := 20) (b := l6_114.toInt) ex263 rfl rfl (by omega) (by omega)
                        intro x265 ex265
                        have f60 : x265.toInt = x263.toInt + 1 := i_add (a := x263.toInt) (b := 1) ex265 rfl rfl (by omega) (by omega)
                        refine ⟨i_in (by omega) (by omega), ?_⟩
                        intro x266 ex266
                        have f61 : (0 ≤ x266.toInt ∧ x266.toInt ≤ 100) := zFi_1f (f := l6_114.toInt) h93.2 ex266 (by omega) (by omega) (by omega) (by omega)
                        intro x269 ex269
                        have f62 : x269.toInt = l6_114.toInt + 1 := i_add (a := l6_114.toInt) (b := 1) ex269 rfl rfl (by omega) (by omega)
                        exact ih_114 x266 x269 v_madeMany_143 v_madeSigns_143  (by omega) (by omega) (by omega) (by omega) (by omega) (by have h8_0 := i_rng l6_114; have h8_1 := i_rng x269; omega)
                      · have f63 : l7_143.toInt < v_taped.toInt := i_nle (a := v_taped.toInt) (b := l7_143.toInt) rfl rfl c149
                        refine ⟨i_in (by omega) (by omega), ?_⟩
                        intro x158 ex158
                        have f64 : 32 ≤ x158.toInt ∧ x158.toInt ≤ 126 := by have h9 := rp_get (P := (fun k v => 32 ≤ v ∧ v ≤ 126)) (a := l7_143.toInt) b0 ex158 rfl (by omega) (by omega) (by omega); omega
                        have j_249 : ∀ (l7_249 : Int32) (v_madeMany_249 : Int32) (v_madeSigns_249 : Nat → Int32), l7_143.toInt ≤ l7_249.toInt → l7_249.toInt ≤ l7_143.toInt + 1 → v_madeMany_143.toInt ≤ v_madeMany_249.toInt → v_madeMany_249.toInt ≤ 20200 * l6_114.toInt + 100 * l7_249.toInt + 200 → l7_249.toInt ≤ 199 → (zRv v_tape (l7_249.toInt + 1)) → w_X12_replace_249 Q (w_X12_replace_114 p2 v_tape v_long0 v_signs Q 0 r8_0 v_taped v_outMany v_outNumbers v_acts_93 v_labels_93 v_tasks_93 v_trail_93 v_choices_93 v_now_93 v_spot_93 v_slotNow_93 v_textNow_93 v_longNow_93 v_steps_93 v_limit_93 v_isOver_93 v_stamp_93 v_isGoing_93 v_findMany_93 v_out v_act_93 v_actA_93 v_actB_93 v_labelAt_93 v_task_93 v_taskA_93 v_taskB_93 v_held_93 v_reg_93 v_trailOf_93 v_trailOld_93 v_choiceSort_93 v_choiceAct_93 v_choicePlace_93 v_choiceTrail_93 v_seen_93 v_found_93 v_finds_93 n_114) (w_X12_replace_143 p2 v_tape v_signs v_taped v_finds_93 Q (w_X12_replace_114 p2 v_tape v_long0 v_signs Q 0 r8_0 v_taped v_outMany v_outNumbers v_acts_93 v_labels_93 v_tasks_93 v_trail_93 v_choices_93 v_now_93 v_spot_93 v_slotNow_93 v_textNow_93 v_longNow_93 v_steps_93 v_limit_93 v_isOver_93 v_stamp_93 v_isGoing_93 v_findMany_93 v_out v_act_93 v_actA_93 v_actB_93 v_labelAt_93 v_task_93 v_taskA_93 v_taskB_93 v_held_93 v_reg_93 v_trailOf_93 v_trailOld_93 v_choiceSort_93 v_choiceAct_93 v_choicePlace_93 v_choiceTrail_93 v_seen_93 v_found_93 v_finds_93 n_114) l6_114 n_143) l7_249 v_madeMany_249 v_madeSigns_249 := by
                          intro l7_249 v_madeMany_249 v_madeSigns_249 f65 f66 f67 f68 f69 u249_0
                          unfold w_X12_replace_249
                          intro x249 ex249
                          have f70 : x249.toInt = l7_249.toInt + 1 := i_add (a := l7_249.toInt) (b := 1) ex249 rfl rfl (by omega) (by omega)
                          exact ih_143 x249 v_madeMany_249 v_madeSigns_249  (by omega) (by omega) (by omega) (by omega) (by first | exact zRv_0 rfl | (rw [show x249.toInt = l7_249.toInt + 1 by omega]; exact u249_0)) (by have h8_0 := i_rng l7_143; have h8_1 := i_rng x249; omega)
                        refine ⟨fun c165 => ?_, fun c165 => ?_⟩
                        · have f71 : x158.toInt ≠ 36 := i_ne (a := x158.toInt) (b := 36) rfl rfl c165
                          refine ok_X12_makeSign (by omega) (by omega) (fun r246_0 r246_1 f72 => ?_)
                          exact j_249 l7_143 r246_0 r246_1 (by omega) (by omega) (by omega) (by omega) (by omega) (by first | exact zRv_1 u143_0 ex158 (by omega) (by omega) | exact zRv_2 u143_0 ex158 (by omega) (by omega))
                        · have f73 : x158.toInt = 36 := i_eq (a := x158.toInt) (b := 36) rfl rfl c165
                          have f74 : l7_143.toInt + 2 ≤ v_taped.toInt := by have h9 := zRv_q u143_0 h93.1 ex158 (by omega) (by omega); omega
                          intro x168 ex168
                          have f75 : x168.toInt = l7_143.toInt + 1 := i_add (a := l7_143.toInt) (b := 1) ex168 rfl rfl (by omega) (by omega)
                          refine ⟨i_in (by omega) (by omega), ?_⟩
                          intro x177 ex177
                          have f76 : 32 ≤ x177.toInt ∧ x177.toInt ≤ 126 := by have h9 := rp_get (P := (fun k v => 32 ≤ v ∧ v ≤ 126)) (a := x168.toInt) b0 ex177 rfl (by omega) (by omega) (by omega); omega
                          refine ok_X12_isDigit  (fun r182 f77 f78 f79 f80 f81 f82 => ?_)
                          refine ⟨fun c185 => ?_, fun c185 => ?_⟩
                          · have f83 : r182.toInt = 0 := i_eq (a := r182.toInt) (b := 0) rfl rfl c185
                            refine ok_X12_makeSign (by omega) (by omega) (fun r237_0 r237_1 f84 => ?_)
                            exact j_249 x168 r237_0 r237_1 (by omega) (by omega) (by omega) (by omega) (by omega) (by first | exact zRv_1 u143_0 ex158 (by omega) (by omega) | exact zRv_2 u143_0 ex158 (by omega) (by omega))
                          · have f85 : r182.toInt ≠ 0 := i_ne (a := r182.toInt) (b := 0) rfl rfl c185
                            intro x198 ex198
                            have f86 : x198.toInt = 20 * l6_114.toInt := i_mul (a := 20) (b := l6_114.toInt) ex198 rfl rfl (by omega) (by omega)
                            intro x204 ex204
                            have f87 : x204.toInt = x177.toInt - 48 := i_sub (a := x177.toInt) (b := 48) ex204 rfl rfl (by omega) (by omega)
                            intro x205 ex205
                            have f88 : x205.toInt = 2 * x204.toInt := i_mul (a := 2) (b := x204.toInt) ex205 rfl rfl (by omega) (by omega)
                            intro x206 ex206
                            have f89 : x206.toInt = x198.toInt + x205.toInt := i_add (a := x198.toInt) (b := x205.toInt) ex206 rfl rfl (by omega) (by omega)
                            refine ⟨i_in (by omega) (by omega), ?_⟩
                            intro x207 ex207
                            have f90 : (0 ≤ x207.toInt + 1 ∧ x207.toInt ≤ 100) := by have h9 := zFi_a (f := l6_114.toInt) (a := x177.toInt - 48) h93.2 ex207 (by omega) (by omega) (by omega) (by omega) (by omega); omega
                            intro x216 ex216
                            have f91 : x216.toInt = 20 * l6_114.toInt := i_mul (a := 20) (b := l6_114.toInt) ex216 rfl rfl (by omega) (by omega)
                            intro x222 ex222
                            have f92 : x222.toInt = x177.toInt - 48 := i_sub (a := x177.toInt) (b := 48) ex222 rfl rfl (by omega) (by omega)
                            intro x223 ex223
                            have f93 : x223.toInt = 2 * x222.toInt := i_mul (a := 2) (b := x222.toInt) ex223 rfl rfl (by omega) (by omega)
                            intro x224 ex224
                            have f94 : x224.toInt = x216.toInt + x223.toInt := i_add (a := x216.toInt) (b := x223.toInt) ex224 rfl rfl (by omega) (by omega)
                            intro x226 ex226
                            have f95 : x226.toInt = x224.toInt + 1 := i_add (a := x224.toInt) (b := 1) ex226 rfl rfl (by omega) (by omega)
                            refine ⟨i_in (by omega) (by omega), ?_⟩
                            intro x227 ex227
                            have f96 : (0 ≤ x227.toInt + 1 ∧ x227.toInt ≤ 100) := by have h9 := zFi_b (f := l6_114.toInt) (a := x177.toInt - 48) h93.2 ex227 (by omega) (by omega) (by omega) (by omega) (by omega); omega
                            refine ok_X12_makePart (by omega) (by omega) (by omega) (by omega) (by omega) (by omega) (by omega) (rp_mono b2 (by omega) (by omega)) (fun r228_0 r228_1 f97 f98 f99 f100 f101 f102 => ?_)
                            exact j_249 x168 r228_0 r228_1 (by omega) (by omega) (by omega) (by omega) (by omega) (by first | exact zRv_1 u143_0 ex158 (by omega) (by omega) | exact zRv_2 u143_0 ex158 (by omega) (by omega))
                  exact ⟨(2147483648 : Int).toNat + 1, j_143   ((2147483648 : Int).toNat + 1) 0 r137_0 r137_1  (by omega) (by omega) (by omega) (by omega) (by first | exact zRv_0 rfl | (rw [show (0 : Int32).toInt = l7_249.toInt + 1 by omega]; exact u249_0)) (by omega)⟩
            exact ⟨(2147483648 : Int).toNat + 1, j_114   ((2147483648 : Int).toNat + 1) 0 0 0 v_madeSigns  (by omega) (by omega) (by omega) (by omega) (by omega) (by omega)⟩
          · have f103 : s0_93.toInt ≠ 0 := i_ne (a := s0_93.toInt) (b := 0) rfl rfl c97
            exact hq s0_93 0 r8_0 v_taped v_outMany v_outNumbers v_acts_93 v_labels_93 v_tasks_93 v_trail_93 v_choices_93 v_now_93 v_spot_93 v_slotNow_93 v_textNow_93 v_longNow_93 v_steps_93 v_limit_93 v_isOver_93 v_stamp_93 v_isGoing_93 v_findMany_93 v_madeMany v_out v_act_93 v_actA_93 v_actB_93 v_labelAt_93 v_task_93 v_taskA_93 v_taskB_93 v_held_93 v_reg_93 v_trailOf_93 v_trailOld_93 v_choiceSort_93 v_choiceAct_93 v_choicePlace_93 v_choiceTrail_93 v_seen_93 v_found_93 v_finds_93 v_madeSigns (by omega) (by omega) (by omega) (by omega) (by omega) (by omega) (by omega) (rp_mono h14 (by omega) (by omega)) (rp_mono h14 (by omega) (by omega)) (rp_mono h15 (by omega) (by omega)) (rp_mono h14 (by omega) (by omega)) (by exact u93_1)
        refine ⟨fun c78 => ?_, fun c78 => ?_⟩
        · have f104 : s0_74.toInt ≠ 0 := i_ne (a := s0_74.toInt) (b := 0) rfl rfl c78
          exact j_93 s0_74 v_acts v_labels v_tasks v_trail v_choices v_now v_spot v_slotNow v_textNow v_longNow v_steps v_limit v_isOver v_stamp v_isGoing v_findMany v_act v_actA v_actB v_labelAt v_task v_taskA v_taskB v_held v_reg v_trailOf v_trailOld v_choiceSort v_choiceAct v_choicePlace v_choiceTrail v_seen v_found v_finds (by omega) (by omega) (rp_mono b3 (by omega) (by omega)) (rp_mono b3 (by omega) (by omega)) (by first | exact fun z => absurd z (by omega) | exact fun z => ⟨h74.2.1, ⟨by omega, by omega⟩, h74.2.2.1, u85_0 z⟩) (by first | exact u1 | exact zGi_n (zbz0 (by omega)))
        · have f105 : s0_74.toInt = 0 := i_eq (a := s0_74.toInt) (b := 0) rfl rfl c78
          have h74 := u74_0 (by omega)
          have f106 : 0 ≤ p1.toInt := by omega
          have f107 : p1.toInt ≤ 5 := by omega
          have f108 : 0 ≤ p2.toInt := by omega
          have f109 : p2.toInt ≤ 3 := by omega
          have f110 : 0 ≤ p3.toInt := by omega
          have f111 : p3.toInt ≤ 2 := by omega
          have hSM := zAll_s u0 (u8_0 (by omega)) (by omega) (by omega)
          have hS := hSM.1
          have hM := hSM.2
          have f112 : 1 ≤ (zg v_many p1.toInt : Int) := (zS_n hS).1
          have f113 : (zg v_many p1.toInt : Int) ≤ 220 := (zS_n hS).2
          have f114 : 0 ≤ (zg v_captures p1.toInt : Int) := (zS_c hS).1
          have f115 : (zg v_captures p1.toInt : Int) ≤ 9 := (zS_c hS).2
          refine ok_X12_findAll (v_holder := v_holder) (v_many := v_many) (v_captures := v_captures) (v_size := v_size) (v_positions := v_positions) (by omega) (by omega) (by omega) (by omega) (by omega) (by omega) (rp_mono b1 (by omega) (by omega)) (rp_mono b2 (by omega) (by omega)) (rp_mono b3 (by omega) (by omega)) (by exact hS) (by exact hM) (by exact h74.2.2.2.1) (by exact h74.2.2.2.2) (fun r85 r85_0 r85_1 r85_2 r85_3 r85_4 r85_5 r85_6 r85_7 r85_8 r85_9 r85_10 r85_11 r85_12 r85_13 r85_14 r85_15 r85_16 r85_17 r85_18 r85_19 r85_20 r85_21 r85_22 r85_23 r85_24 r85_25 r85_26 r85_27 r85_28 r85_29 r85_30 r85_31 r85_32 r85_33 f116 f117 f118 f119 f120 f121 f122 f123 f124 f125 f126 f127 f128 f129 f130 f131 f132 f133 f134 h135 h136 h137 u85_0 => ?_)
          exact j_93 r85 r85_0 r85_1 r85_2 r85_3 r85_4 r85_5 r85_6 r85_7 r85_8 r85_9 r85_10 r85_11 r85_12 r85_13 r85_14 r85_15 r85_16 r85_17 r85_18 r85_19 r85_20 r85_21 r85_22 r85_23 r85_24 r85_25 r85_26 r85_27 r85_28 r85_29 r85_30 r85_31 r85_32 r85_33 (by omega) (by omega) (rp_mono h135 (by omega) (by omega)) (rp_mono h136 (by omega) (by omega)) (by first | exact fun z => absurd z (by omega) | exact fun z => ⟨h74.2.1, ⟨by omega, by omega⟩, h74.2.2.1, u85_0 z⟩) (by first | exact u1 | exact zGi_n (zbz0 (by omega)))
      refine ⟨fun c60 => ?_, fun c60 => ?_⟩
      · have f138 : s0_56.toInt ≠ 0 := i_ne (a := s0_56.toInt) (b := 0) rfl rfl c60
        exact j_74 s0_56 (by omega) (by omega) (by omega) (by first | exact fun z => absurd z (by omega) | exact fun z => ⟨h56.1, h56.2.1, h56.2.2, u66_0 z, (u66_1 z).1⟩)
      · have f139 : s0_56.toInt = 0 := i_eq (a := s0_56.toInt) (b := 0) rfl rfl c60
        have h56 := u56_0 (by omega)
        have f140 : 0 ≤ p1.toInt := by omega
        have f141 : p1.toInt ≤ 5 := by omega
        have f142 : 0 ≤ p2.toInt := by omega
        have f143 : p2.toInt ≤ 3 := by omega
        have f144 : 0 ≤ p3.toInt := by omega
        have f145 : p3.toInt ≤ 2 := by omega
        have hSM := zAll_s u0 (u8_0 (by omega)) (by omega) (by omega)
        have hS := hSM.1
        have hM := hSM.2
        have f146 : 1 ≤ (zg v_many p1.toInt : Int) := (zS_n hS).1
        have f147 : (zg v_many p1.toInt : Int) ≤ 220 := (zS_n hS).2
        have f148 : 0 ≤ (zg v_captures p1.toInt : Int) := (zS_c hS).1
        have f149 : (zg v_captures p1.toInt : Int) ≤ 9 := (zS_c hS).2
        refine ok_X12_bars (v_holder := v_holder) (v_parts := v_parts) (v_end := v_end) (v_firstPart := v_firstPart) (v_partBegin := v_partBegin) (v_partEnd := v_partEnd) (v_captures := v_captures) (by omega) (by omega) (by exact hS) (fun r66 f150 u66_0 u66_1 => ?_)
        exact j_74 r66 (by omega) (by omega) (by omega) (by first | exact fun z => absurd z (by omega) | exact fun z => ⟨h56.1, h56.2.1, h56.2.2, u66_0 z, (u66_1 z).1⟩)
    have j_54 : (s0_34.toInt = 0 → zRq v_tape v_taped.toInt) → w_X12_replace_54 p1 p2 p3 v_tape v_many v_sort v_value v_least v_most v_parts v_end v_size v_positions v_firstPart v_mayEmpty v_inCase v_partBegin v_partEnd v_long0 v_signs Q s0_34 0 r8_0 v_taped v_outMany v_outNumbers v_acts v_labels v_tasks v_trail v_choices v_now v_spot v_slotNow v_textNow v_longNow v_steps v_limit v_isOver v_stamp v_isGoing v_findMany v_madeMany v_out v_act v_actA v_actB v_labelAt v_task v_taskA v_taskB v_held v_reg v_trailOf v_trailOld v_choiceSort v_choiceAct v_choicePlace v_choiceTrail v_seen v_found v_finds v_madeSigns := by
      intro u54_0
      unfold w_X12_replace_54
      exact j_56 s0_34 (by omega) (by omega) (by first | exact fun z => absurd z (by decide) | exact fun z => ⟨(u34_0 z).1, (u34_0 z).2, u54_0 z⟩)
    refine ⟨fun c38 => ?_, fun c38 => ?_⟩
    · have f151 : s0_34.toInt ≠ 0 := i_ne (a := s0_34.toInt) (b := 0) rfl rfl c38
      exact j_54  (by first | exact fun z => absurd z (by omega) | exact fun _ => u43_0 (by omega))
    · have f152 : s0_34.toInt = 0 := i_eq (a := s0_34.toInt) (b := 0) rfl rfl c38
      have h34 := u34_0 (by omega)
      have f153 : 0 ≤ p1.toInt := by omega
      have f154 : p1.toInt ≤ 5 := by omega
      have f155 : 0 ≤ p2.toInt := by omega
      have f156 : p2.toInt ≤ 3 := by omega
      have f157 : 0 ≤ p3.toInt := by omega
      have f158 : p3.toInt ≤ 2 := by omega
      refine ok_X12_isReplacing (by omega) (by omega) (by omega) (by omega) (rp_mono b0 (by omega) (by omega)) (fun r43 f159 f160 f161 f162 f163 f164 f165 f166 f167 f168 f169 f170 u43_0 => ?_)
      refine ⟨fun c46 => ?_, fun c46 => ?_⟩
      · have f171 : r43.toInt ≠ 0 := i_ne (a := r43.toInt) (b := 0) rfl rfl c46
        exact j_54  (by first | exact fun z => absurd z (by omega) | exact fun _ => u43_0 (by omega))
      · have f172 : r43.toInt = 0 := i_eq (a := r43.toInt) (b := 0) rfl rfl c46
        exact j_56 (-5) (by omega) (by omega) (by first | exact fun z => absurd z (by decide) | exact fun z => ⟨(u34_0 z).1, (u34_0 z).2, u54_0 z⟩)
  have j_32 : (r8.toInt = 0 → ((0 ≤ p1.toInt ∧ p1.toInt ≤ 5) ∧ (0 ≤ p2.toInt ∧ p2.toInt ≤ 3) ∧ (0 ≤ p3.toInt ∧ p3.toInt ≤ 2))) → w_X12_replace_32 p1 p2 p3 v_tape v_many v_captures v_sort v_value v_least v_most v_parts v_end v_size v_positions v_firstPart v_mayEmpty v_inCase v_partBegin v_partEnd v_long0 v_signs Q r8 0 r8_0 v_taped v_outMany v_outNumbers v_acts v_labels v_tasks v_trail v_choices v_now v_spot v_slotNow v_textNow v_longNow v_steps v_limit v_isOver v_stamp v_isGoing v_findMany v_madeMany v_out v_act v_actA v_actB v_labelAt v_task v_taskA v_taskB v_held v_reg v_trailOf v_trailOld v_choiceSort v_choiceAct v_choicePlace v_choiceTrail v_seen v_found v_finds v_madeSigns := by
    intro u32_0
    unfold w_X12_replace_32
    exact j_34 r8 (by omega) (by first | exact fun z => absurd z (by decide) | exact fun z => ⟨z, u32_0 z⟩)
  refine ⟨fun c15 => ?_, fun c15 => ?_⟩
  · have f173 : r8.toInt ≠ 0 := i_ne (a := r8.toInt) (b := 0) rfl rfl c15
    exact j_32  (by first | exact fun z => absurd z (by omega) | exact fun _ => ⟨by omega, by omega, by omega⟩)
  · have f174 : r8.toInt = 0 := i_eq (a := r8.toInt) (b := 0) rfl rfl c15
    refine ok_X12_in  (fun r21 f175 f176 f177 f178 f179 f180 => ?_)
    refine ⟨fun c24 => ?_, fun c24 => ?_⟩
    · have f181 : r21.toInt ≠ 0 := i_ne (a := r21.toInt) (b := 0) rfl rfl c24
      exact j_32  (by first | exact fun z => absurd z (by omega) | exact fun _ => ⟨by omega, by omega, by omega⟩)
    · have f182 : r21.toInt = 0 := i_eq (a := r21.toInt) (b := 0) rfl rfl c24
      exact j_34 (-4) (by omega) (by first | exact fun z => absurd z (by decide) | exact fun z => ⟨z, u32_0 z⟩)
