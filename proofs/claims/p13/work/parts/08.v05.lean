set_option maxHeartbeats 4000000 in
theorem ok_X12_goes {p1 : Int32} {v_acts : Int32} {v_labels : Int32} {v_tasks : Int32} {v_trail : Int32} {v_choices : Int32} {v_now : Int32} {v_spot : Int32} {v_slotNow : Int32} {v_textNow : Int32} {v_longNow : Int32} {v_steps : Int32} {v_limit : Int32} {v_isOver : Bool} {v_stamp : Int32} {v_isGoing : Bool} {v_goSlot : Int32} {v_goSubject : Int32} {v_goFrom : Int32} {v_goSteps : Int32} {v_hasSpan : Bool} {v_spanCaptures : Int32} {v_captures : Nat → Int32} {v_sort : Nat → Int32} {v_value : Nat → Int32} {v_least : Nat → Int32} {v_most : Nat → Int32} {v_parts : Nat → Int32} {v_end : Nat → Int32} {v_firstPart : Nat → Int32} {v_inCase : Nat → Bool} {v_partBegin : Nat → Int32} {v_partEnd : Nat → Int32} {v_long0 : Nat → Int32} {v_signs : Nat → Int32} {v_act : Nat → Int32} {v_actA : Nat → Int32} {v_actB : Nat → Int32} {v_labelAt : Nat → Int32} {v_task : Nat → Int32} {v_taskA : Nat → Int32} {v_taskB : Nat → Int32} {v_held : Nat → Int32} {v_reg : Nat → Int32} {v_trailOf : Nat → Int32} {v_trailOld : Nat → Int32} {v_choiceSort : Nat → Int32} {v_choiceAct : Nat → Int32} {v_choicePlace : Nat → Int32} {v_choiceTrail : Nat → Int32} {v_seen : Nat → Int32} {v_found : Nat → Int32} {v_span : Nat → Int32} {v_holder : Nat → Int32} {v_many : Nat → Int32} {Q : Int32 → Int32 → Int32 → Int32 → Int32 → Int32 → Int32 → Int32 → Int32 → Int32 → Int32 → Int32 → Int32 → Bool → Int32 → Bool → Int32 → Bool → Int32 → (Nat → Int32) → (Nat → Int32) → (Nat → Int32) → (Nat → Int32) → (Nat → Int32) → (Nat → Int32) → (Nat → Int32) → (Nat → Int32) → (Nat → Int32) → (Nat → Int32) → (Nat → Int32) → (Nat → Int32) → (Nat → Int32) → (Nat → Int32) → (Nat → Int32) → (Nat → Int32) → (Nat → Int32) → (Nat → Int32) → Prop} (a0 : 0 ≤ v_spanCaptures.toInt) (a1 : v_spanCaptures.toInt ≤ 9) (a2 : 0 ≤ v_goSlot.toInt) (a3 : v_goSlot.toInt ≤ 5) (a4 : 0 ≤ v_goSubject.toInt) (a5 : v_goSubject.toInt ≤ 3) (a6 : 0 ≤ v_goFrom.toInt) (a7 : 1 ≤ p1.toInt) (a8 : p1.toInt ≤ 1000000) (b0 : rp (fun k v => 0 ≤ v ∧ v ≤ 100) v_long0 0 4) (b1 : rp (fun k v => 0 ≤ v ∧ v ≤ 65535) v_signs 0 400) (b2 : rp (fun k v => 0 ≤ v ∧ v ≤ 1129) v_trailOf 0 v_trail.toInt) (u0 : zSl v_sort v_value v_least v_most v_holder v_parts v_end v_firstPart v_partBegin v_partEnd (220 * v_goSlot.toInt) (420 * v_goSlot.toInt) (zg v_many v_goSlot.toInt) (zg v_captures v_goSlot.toInt)) (u1 : v_goFrom.toInt ≤ zg v_long0 v_goSubject.toInt) (hq : ∀ (r : Int32) (ov_acts : Int32) (ov_labels : Int32) (ov_tasks : Int32) (ov_trail : Int32) (ov_choices : Int32) (ov_now : Int32) (ov_spot : Int32) (ov_slotNow : Int32) (ov_textNow : Int32) (ov_longNow : Int32) (ov_steps : Int32) (ov_limit : Int32) (ov_isOver : Bool) (ov_stamp : Int32) (ov_isGoing : Bool) (ov_goSteps : Int32) (ov_hasSpan : Bool) (ov_spanCaptures : Int32) (ov_act : Nat → Int32) (ov_actA : Nat → Int32) (ov_actB : Nat → Int32) (ov_labelAt : Nat → Int32) (ov_task : Nat → Int32) (ov_taskA : Nat → Int32) (ov_taskB : Nat → Int32) (ov_held : Nat → Int32) (ov_reg : Nat → Int32) (ov_trailOf : Nat → Int32) (ov_trailOld : Nat → Int32) (ov_choiceSort : Nat → Int32) (ov_choiceAct : Nat → Int32) (ov_choicePlace : Nat → Int32) (ov_choiceTrail : Nat → Int32) (ov_seen : Nat → Int32) (ov_found : Nat → Int32) (ov_span : Nat → Int32), ov_goSteps.toInt ≤ p1.toInt → 0 ≤ ov_goSteps.toInt + 8 → 1 ≤ ov_goSteps.toInt → ov_goSteps.toInt ≤ 3000 → ((ov_goSteps.toInt = 3000 ∧ 3000 ≤ p1.toInt) ∨ (ov_goSteps.toInt = p1.toInt ∧ p1.toInt ≤ 2999)) → 0 ≤ ov_acts.toInt + 1 → 0 ≤ ov_acts.toInt → 0 ≤ ov_labels.toInt + 1 → 0 ≤ ov_labels.toInt → 0 ≤ ov_tasks.toInt + 1 → 0 ≤ ov_tasks.toInt → ov_acts.toInt ≤ 2700 → ov_tasks.toInt ≤ 0 → ov_slotNow.toInt = 220 * v_goSlot.toInt → ov_textNow.toInt = 100 * v_goSubject.toInt → 0 ≤ ov_longNow.toInt → ov_longNow.toInt ≤ 100 → v_goFrom.toInt ≤ ov_longNow.toInt → ov_goSteps.toInt ≤ ov_limit.toInt → ((ov_limit.toInt = ov_goSteps.toInt ∧ 0 = 0) ∨ (ov_limit.toInt = 2147483647)) → 0 ≤ ov_steps.toInt → ov_steps.toInt ≤ 262144 → ov_steps.toInt ≤ 200010 → 0 ≤ (bz ov_isGoing).toInt + 8 → (bz ov_isGoing).toInt ≤ 2 → r.toInt ≤ 2 → (((bz ov_hasSpan).toInt = (bz v_hasSpan).toInt ∧ ov_spanCaptures.toInt = v_spanCaptures.toInt ∧ 0 ≤ r.toInt + 8) ∨ (0 ≤ r.toInt + 1 ∧ 0 ≤ r.toInt ∧ 0 ≤ (bz ov_hasSpan).toInt + 8 ∧ (bz ov_hasSpan).toInt ≤ 2 ∧ 0 ≤ ov_spanCaptures.toInt ∧ ov_spanCaptures.toInt ≤ 9)) → rp (fun k v => 0 ≤ v ∧ v ≤ 1129) ov_trailOf 0 ov_trail.toInt → Q r ov_acts ov_labels ov_tasks ov_trail ov_choices ov_now ov_spot ov_slotNow ov_textNow ov_longNow ov_steps ov_limit ov_isOver ov_stamp ov_isGoing ov_goSteps ov_hasSpan ov_spanCaptures ov_act ov_actA ov_actB ov_labelAt ov_task ov_taskA ov_taskB ov_held ov_reg ov_trailOf ov_trailOld ov_choiceSort ov_choiceAct ov_choicePlace ov_choiceTrail ov_seen ov_found ov_span) : w_X12_goes p1 v_acts v_labels v_tasks v_trail v_choices v_now v_spot v_slotNow v_textNow v_longNow v_steps v_limit v_isOver v_stamp v_isGoing v_goSlot v_goSubject v_goFrom v_goSteps v_hasSpan v_spanCaptures v_captures v_sort v_value v_least v_most v_parts v_end v_firstPart v_inCase v_partBegin v_partEnd v_long0 v_signs v_act v_actA v_actB v_labelAt v_task v_taskA v_taskB v_held v_reg v_trailOf v_trailOld v_choiceSort v_choiceAct v_choicePlace v_choiceTrail v_seen v_found v_span Q := by
  have q_t : (bz true).toInt = 1 := rfl
  have q_f : (bz false).toInt = 0 := rfl
  have q_m8 : ((-8) : Int32).toInt = (-8) := rfl
  have q_0 : (0 : Int32).toInt = 0 := rfl
  have q_1 : (1 : Int32).toInt = 1 := rfl
  have q_2 : (2 : Int32).toInt = 2 := rfl
  have q_3000 : (3000 : Int32).toInt = 3000 := rfl
  unfold w_X12_goes
  have j_15 : ∀ (s0_15 : Int32), s0_15.toInt ≤ p1.toInt → 0 ≤ s0_15.toInt + 8 → 1 ≤ s0_15.toInt → s0_15.toInt ≤ 3000 → ((s0_15.toInt = 3000 ∧ 3000 ≤ p1.toInt) ∨ (s0_15.toInt = p1.toInt ∧ p1.toInt ≤ 2999)) → w_X12_goes_15 v_goSlot v_goSubject v_goFrom v_captures v_sort v_value v_least v_most v_parts v_end v_firstPart v_inCase v_partBegin v_partEnd v_long0 v_signs Q s0_15 v_acts v_labels v_tasks v_trail v_choices v_now v_spot v_slotNow v_textNow v_longNow v_steps v_limit v_isOver v_stamp v_isGoing v_goSteps v_hasSpan v_spanCaptures v_act v_actA v_actB v_labelAt v_task v_taskA v_taskB v_held v_reg v_trailOf v_trailOld v_choiceSort v_choiceAct v_choicePlace v_choiceTrail v_seen v_found v_span := by
    intro s0_15 f1 f2 f3 f4 f5
    unfold w_X12_goes_15
    refine ok_X12_compile (gZ := (fun c => zg v_end (220 * v_goSlot.toInt + c) - c)) (gfi := 0) (v_holder := v_holder) (v_parts := v_parts) (v_firstPart := v_firstPart) (v_partBegin := v_partBegin) (v_partEnd := v_partEnd) (v_acts := v_acts) (v_labels := v_labels) (v_tasks := v_tasks) (v_many := v_many) (v_captures := v_captures) (gP := (fun _ => 0)) (gE := 0) (by omega) (by omega) (by omega) (by omega) (by exact u0) (by exact zZ_n u0) (by exact zZ_r u0) (by exact Or.inr ⟨rfl, rfl⟩) (by exact fun z => absurd z (by decide)) (by exact fun z => absurd z (by decide)) (fun r24_0 r24_1 r24_2 r24_3 r24_4 r24_5 r24_6 r24_7 r24_8 r24_9 r24_10 f6 f7 f8 f9 f10 f11 f12 f13 u24_0 u24_1 => ?_)
    refine ok_X12_searched (gfi := 0) (gN := r24_0.toInt) (v_holder := v_holder) (v_end := v_end) (v_many := v_many) (v_captures := v_captures) (v_steps := v_steps) (by omega) (by omega) (by omega) (by omega) (by omega) (by omega) (by omega) (by omega) (by omega) (by omega) (by omega) (rp_mono b0 (by omega) (by omega)) (rp_mono b1 (by omega) (by omega)) (rp_mono b2 (by omega) (by omega)) (by exact u24_0) (by exact u0) (by exact Or.inr ⟨rfl, rfl⟩) (by exact u1) (fun r46 r46_0 r46_1 r46_2 r46_3 r46_4 r46_5 r46_6 r46_7 r46_8 r46_9 r46_10 r46_11 r46_12 r46_13 r46_14 r46_15 r46_16 r46_17 r46_18 r46_19 f14 f15 f16 f17 f18 f19 f20 f21 f22 f23 f24 f25 f26 f27 h28 h29 u46_0 => ?_)
    have j_71 : ∀ (s0_71 : Int32), 0 ≤ s0_71.toInt + 8 → s0_71.toInt ≤ 2 → ((s0_71.toInt = 1 ∧ r46.toInt = 2 ∧ s0_15.toInt ≤ 2999) ∨ (s0_71.toInt = 0)) → w_X12_goes_71 v_goSlot v_captures Q s0_71 r46 r24_0 r24_1 r24_2 r46_0 r46_1 r46_2 r46_3 r46_4 r46_5 r46_6 r46_7 r46_8 r46_9 r46_10 v_isGoing s0_15 v_hasSpan v_spanCaptures r24_3 r24_4 r24_5 r24_6 r24_7 r24_8 r24_9 r24_10 r46_11 r46_12 r46_13 r46_14 r46_15 r46_16 r46_17 r46_18 r46_19 v_span := by
      intro s0_71 f30 f31 f32
      unfold w_X12_goes_71
      refine ⟨i_01 (by omega) (by omega), ?_⟩
      intro b71 eb71
      have f33 : (bz b71).toInt = s0_71.toInt := by rw [← eb71]
      refine ⟨fun c76 => ?_, fun c76 => ?_⟩
      · have f34 : r46.toInt ≠ 2 := i_ne (a := r46.toInt) (b := 2) rfl rfl c76
        have j_108 : ∀ (s0_108 : Int32), 0 ≤ s0_108.toInt + 8 → s0_108.toInt ≤ 2 → ((s0_108.toInt = 0) ∨ (s0_108.toInt = 1 ∧ r46.toInt = 1)) → w_X12_goes_108 v_captures Q s0_108 v_goSlot r46 r24_0 r24_1 r24_2 r46_0 r46_1 r46_2 r46_3 r46_4 r46_5 r46_6 r46_7 r46_8 r46_9 r46_10 b71 s0_15 v_hasSpan v_spanCaptures r24_3 r24_4 r24_5 r24_6 r24_7 r24_8 r24_9 r24_10 r46_11 r46_12 r46_13 r46_14 r46_15 r46_16 r46_17 r46_18 r46_19 v_span := by
          intro s0_108 f35 f36 f37
          unfold w_X12_goes_108
          refine ok_X12_keepSpan (v_sort := v_sort) (v_value := v_value) (v_least := v_least) (v_most := v_most) (v_holder := v_holder) (v_parts := v_parts) (v_end := v_end) (v_firstPart := v_firstPart) (v_partBegin := v_partBegin) (v_partEnd := v_partEnd) (v_many := v_many) (by omega) (by omega) (by omega) (by omega) (by exact u0) (fun r108_0 r108_1 r108_2 f38 f39 f40 => ?_)
          exact hq r46 r24_0 r24_1 r24_2 r46_0 r46_1 r46_2 r46_3 r46_4 r46_5 r46_6 r46_7 r46_8 r46_9 r46_10 b71 s0_15 r108_0 r108_1 r24_3 r24_4 r24_5 r24_6 r24_7 r24_8 r24_9 r24_10 r46_11 r46_12 r46_13 r46_14 r46_15 r46_16 r46_17 r46_18 r46_19 r108_2 (by omega) (by omega) (by omega) (by omega) (by omega) (by omega) (by omega) (by omega) (by omega) (by omega) (by omega) (by omega) (by omega) (by omega) (by omega) (by omega) (by omega) (by omega) (by omega) (by omega) (by omega) (by omega) (by omega) (by omega) (by omega) (by omega) (by omega) (rp_mono h28 (by omega) (by omega))
        refine ⟨fun c100 => ?_, fun c100 => ?_⟩
        · have f41 : r46.toInt ≠ 1 := i_ne (a := r46.toInt) (b := 1) rfl rfl c100
          exact j_108 0 (by omega) (by omega) (by omega)
        · have f42 : r46.toInt = 1 := i_eq (a := r46.toInt) (b := 1) rfl rfl c100
          exact j_108 1 (by omega) (by omega) (by omega)
      · have f43 : r46.toInt = 2 := i_eq (a := r46.toInt) (b := 2) rfl rfl c76
        have j_92 : ∀ (s0_92 : Int32), 0 ≤ s0_92.toInt + 8 → s0_92.toInt ≤ 2 → ((s0_92.toInt + 8 = 0 ∧ (bz b71).toInt = 0) ∨ (s0_92.toInt = 2)) → w_X12_goes_92 Q s0_92 r24_0 r24_1 r24_2 r46_0 r46_1 r46_2 r46_3 r46_4 r46_5 r46_6 r46_7 r46_8 r46_9 r46_10 b71 s0_15 v_hasSpan v_spanCaptures r24_3 r24_4 r24_5 r24_6 r24_7 r24_8 r24_9 r24_10 r46_11 r46_12 r46_13 r46_14 r46_15 r46_16 r46_17 r46_18 r46_19 v_span := by
          intro s0_92 f44 f45 f46
          unfold w_X12_goes_92
          exact hq s0_92 r24_0 r24_1 r24_2 r46_0 r46_1 r46_2 r46_3 r46_4 r46_5 r46_6 r46_7 r46_8 r46_9 r46_10 b71 s0_15 v_hasSpan v_spanCaptures r24_3 r24_4 r24_5 r24_6 r24_7 r24_8 r24_9 r24_10 r46_11 r46_12 r46_13 r46_14 r46_15 r46_16 r46_17 r46_18 r46_19 v_span (by omega) (by omega) (by omega) (by omega) (by omega) (by omega) (by omega) (by omega) (by omega) (by omega) (by omega) (by omega) (by omega) (by omega) (by omega) (by omega) (by omega) (by omega) (by omega) (by omega) (by omega) (by omega) (by omega) (by omega) (by omega) (by omega) (by omega) (rp_mono h28 (by omega) (by omega))
        refine ⟨fun c83 => ?_, fun c83 => ?_⟩
        · have f47 : (bz b71).toInt = 0 := i_eq (a := (bz b71).toInt) (b := 0) rfl rfl c83
          exact j_92 (-8) (by omega) (by omega) (by omega)
        · have f48 : (bz b71).toInt ≠ 0 := i_ne (a := (bz b71).toInt) (b := 0) rfl rfl c83
          exact j_92 2 (by omega) (by omega) (by omega)
    have j_70 : w_X12_goes_70 v_goSlot v_captures Q r46 r24_0 r24_1 r24_2 r46_0 r46_1 r46_2 r46_3 r46_4 r46_5 r46_6 r46_7 r46_8 r46_9 r46_10 v_isGoing s0_15 v_hasSpan v_spanCaptures r24_3 r24_4 r24_5 r24_6 r24_7 r24_8 r24_9 r24_10 r46_11 r46_12 r46_13 r46_14 r46_15 r46_16 r46_17 r46_18 r46_19 v_span := by
      unfold w_X12_goes_70
      exact j_71 0 (by omega) (by omega) (by omega)
    refine ⟨fun c53 => ?_, fun c53 => ?_⟩
    · have f49 : r46.toInt ≠ 2 := i_ne (a := r46.toInt) (b := 2) rfl rfl c53
      exact j_70  
    · have f50 : r46.toInt = 2 := i_eq (a := r46.toInt) (b := 2) rfl rfl c53
      refine ⟨fun c63 => ?_, fun c63 => ?_⟩
      · have f51 : 3000 ≤ s0_15.toInt := i_le (a := 3000) (b := s0_15.toInt) rfl rfl c63
        exact j_70  
      · have f52 : s0_15.toInt < 3000 := i_nle (a := 3000) (b := s0_15.toInt) rfl rfl c63
        exact j_71 1 (by omega) (by omega) (by omega)
  refine ⟨fun c5 => ?_, fun c5 => ?_⟩
  · have f53 : 3000 ≤ p1.toInt := i_le (a := 3000) (b := p1.toInt) rfl rfl c5
    exact j_15 3000 (by omega) (by omega) (by omega) (by omega) (by omega)
  · have f54 : p1.toInt < 3000 := i_nle (a := 3000) (b := p1.toInt) rfl rfl c5
    exact j_15 p1 (by omega) (by omega) (by omega) (by omega) (by omega)
set_option maxHeartbeats 4000000 in
theorem ok_X12_find {p1 : Int32} {p2 : Int32} {p3 : Int32} {p4 : Int32} {p5 : Int32} {v_finding : Int32} {v_acts : Int32} {v_labels : Int32} {v_tasks : Int32} {v_trail : Int32} {v_choices : Int32} {v_now : Int32} {v_spot : Int32} {v_slotNow : Int32} {v_textNow : Int32} {v_longNow : Int32} {v_steps : Int32} {v_limit : Int32} {v_isOver : Bool} {v_stamp : Int32} {v_isGoing : Bool} {v_goSlot : Int32} {v_goSubject : Int32} {v_goFrom : Int32} {v_goSteps : Int32} {v_hasSpan : Bool} {v_spanCaptures : Int32} {v_isThere : Nat → Bool} {v_many : Nat → Int32} {v_captures : Nat → Int32} {v_sort : Nat → Int32} {v_value : Nat → Int32} {v_least : Nat → Int32} {v_most : Nat → Int32} {v_parts : Nat → Int32} {v_end : Nat → Int32} {v_size : Nat → Int32} {v_positions : Nat → Int32} {v_firstPart : Nat → Int32} {v_mayEmpty : Nat → Bool} {v_inCase : Nat → Bool} {v_partBegin : Nat → Int32} {v_partEnd : Nat → Int32} {v_isSubject : Nat → Bool} {v_long0 : Nat → Int32} {v_signs : Nat → Int32} {v_act : Nat → Int32} {v_actA : Nat → Int32} {v_actB : Nat → Int32} {v_labelAt : Nat → Int32} {v_task : Nat → Int32} {v_taskA : Nat → Int32} {v_taskB : Nat → Int32} {v_held : Nat → Int32} {v_reg : Nat → Int32} {v_trailOf : Nat → Int32} {v_trailOld : Nat → Int32} {v_choiceSort : Nat → Int32} {v_choiceAct : Nat → Int32} {v_choicePlace : Nat → Int32} {v_choiceTrail : Nat → Int32} {v_seen : Nat → Int32} {v_found : Nat → Int32} {v_span : Nat → Int32} {v_holder : Nat → Int32} {Q : Int32 → Int32 → Int32 → Int32 → Int32 → Int32 → Int32 → Int32 → Int32 → Int32 → Int32 → Int32 → Int32 → Int32 → Int32 → Bool → Int32 → Bool → Int32 → Int32 → Int32 → Int32 → Bool → Int32 → (Nat → Int32) → (Nat → Int32) → (Nat → Int32) → (Nat → Int32) → (Nat → Int32) → (Nat → Int32) → (Nat → Int32) → (Nat → Int32) → (Nat → Int32) → (Nat → Int32) → (Nat → Int32) → (Nat → Int32) → (Nat → Int32) → (Nat → Int32) → (Nat → Int32) → (Nat → Int32) → (Nat → Int32) → (Nat → Int32) → Prop} (a0 : 0 ≤ v_goSlot.toInt) (a1 : v_goSlot.toInt ≤ 5) (a2 : 0 ≤ v_goSubject.toInt) (a3 : v_goSubject.toInt ≤ 3) (a4 : 0 ≤ v_spanCaptures.toInt) (a5 : v_spanCaptures.toInt ≤ 9) (b0 : rp (fun k v => 0 ≤ v ∧ v ≤ 100) v_long0 0 4) (b1 : rp (fun k v => 0 ≤ v ∧ v ≤ 65535) v_signs 0 400) (b2 : rp (fun k v => 0 ≤ v ∧ v ≤ 1129) v_trailOf 0 v_trail.toInt) (u0 : zAll v_isThere v_many v_captures v_sort v_value v_least v_most v_holder v_parts v_end v_firstPart v_partBegin v_partEnd v_size v_positions) (u1 : zGi v_isGoing v_isThere v_long0 v_goSlot.toInt v_goSubject.toInt v_goFrom.toInt v_goSteps.toInt) (hq : ∀ (r : Int32) (ov_thrown : Int32) (ov_finding : Int32) (ov_acts : Int32) (ov_labels : Int32) (ov_tasks : Int32) (ov_trail : Int32) (ov_choices : Int32) (ov_now : Int32) (ov_spot : Int32) (ov_slotNow : Int32) (ov_textNow : Int32) (ov_longNow : Int32) (ov_steps : Int32) (ov_limit : Int32) (ov_isOver : Bool) (ov_stamp : Int32) (ov_isGoing : Bool) (ov_goSlot : Int32) (ov_goSubject : Int32) (ov_goFrom : Int32) (ov_goSteps : Int32) (ov_hasSpan : Bool) (ov_spanCaptures : Int32) (ov_act : Nat → Int32) (ov_actA : Nat → Int32) (ov_actB : Nat → Int32) (ov_labelAt : Nat → Int32) (ov_task : Nat → Int32) (ov_taskA : Nat → Int32) (ov_taskB : Nat → Int32) (ov_held : Nat → Int32) (ov_reg : Nat → Int32) (ov_trailOf : Nat → Int32) (ov_trailOld : Nat → Int32) (ov_choiceSort : Nat → Int32) (ov_choiceAct : Nat → Int32) (ov_choicePlace : Nat → Int32) (ov_choiceTrail : Nat → Int32) (ov_seen : Nat → Int32) (ov_found : Nat → Int32) (ov_span : Nat → Int32), ov_thrown.toInt = 0 → 0 ≤ r.toInt + 8 → r.toInt ≤ 2 → 0 ≤ ov_goSlot.toInt → ov_goSlot.toInt ≤ 5 → 0 ≤ ov_goSubject.toInt → ov_goSubject.toInt ≤ 3 → 0 ≤ ov_spanCaptures.toInt → ov_spanCaptures.toInt ≤ 9 → rp (fun k v => 0 ≤ v ∧ v ≤ 1129) ov_trailOf 0 ov_trail.toInt → rp (fun k v => 0 ≤ v ∧ v ≤ 1129) ov_trailOf ov_thrown.toInt ov_trail.toInt → (zGi ov_isGoing v_isThere v_long0 ov_goSlot.toInt ov_goSubject.toInt ov_goFrom.toInt ov_goSteps.toInt) → Q r ov_thrown ov_finding ov_acts ov_labels ov_tasks ov_trail ov_choices ov_now ov_spot ov_slotNow ov_textNow ov_longNow ov_steps ov_limit ov_isOver ov_stamp ov_isGoing ov_goSlot ov_goSubject ov_goFrom ov_goSteps ov_hasSpan ov_spanCaptures ov_act ov_actA ov_actB ov_labelAt ov_task ov_taskA ov_taskB ov_held ov_reg ov_trailOf ov_trailOld ov_choiceSort ov_choiceAct ov_choicePlace ov_choiceTrail ov_seen ov_found ov_span) : w_X12_find p1 p2 p3 p4 p5 v_finding v_acts v_labels v_tasks v_trail v_choices v_now v_spot v_slotNow v_textNow v_longNow v_steps v_limit v_isOver v_stamp v_isGoing v_goSlot v_goSubject v_goFrom v_goSteps v_hasSpan v_spanCaptures v_isThere v_many v_captures v_sort v_value v_least v_most v_parts v_end v_size v_positions v_firstPart v_mayEmpty v_inCase v_partBegin v_partEnd v_isSubject v_long0 v_signs v_act v_actA v_actB v_labelAt v_task v_taskA v_taskB v_held v_reg v_trailOf v_trailOld v_choiceSort v_choiceAct v_choicePlace v_choiceTrail v_seen v_found v_span Q := by
  have q_t : (bz true).toInt = 1 := rfl
  have q_f : (bz false).toInt = 0 := rfl
  have q_m4 : ((-4) : Int32).toInt = (-4) := rfl
  have q_0 : (0 : Int32).toInt = 0 := rfl
  have q_1 : (1 : Int32).toInt = 1 := rfl
  have q_2 : (2 : Int32).toInt = 2 := rfl
  have q_3000 : (3000 : Int32).toInt = 3000 := rfl
  unfold w_X12_find
  refine ok_X12_wrongBoth  (fun r8 r8_0 f1 f2 f3 f4 f5 u8_0 => ?_)
  refine ⟨fun c15 => ?_, fun c15 => ?_⟩
  · have f6 : r8.toInt = 0 := i_eq (a := r8.toInt) (b := 0) rfl rfl c15
    have hSM := zAll_s u0 (u8_0 (by omega)) (by omega) (by omega)
    have hS := hSM.1
    have hM := hSM.2
    have f7 : 1 ≤ (zg v_many p1.toInt : Int) := (zS_n hS).1
    have f8 : (zg v_many p1.toInt : Int) ≤ 220 := (zS_n hS).2
    have f9 : 0 ≤ (zg v_captures p1.toInt : Int) := (zS_c hS).1
    have f10 : (zg v_captures p1.toInt : Int) ≤ 9 := (zS_c hS).2
    refine ⟨i_in (by omega) (by omega), ?_⟩
    intro x28 ex28
    have f11 : 0 ≤ x28.toInt ∧ x28.toInt ≤ 100 := by have h9 := rp_get (P := (fun k v => 0 ≤ v ∧ v ≤ 100)) (a := p2.toInt) b0 ex28 rfl (by omega) (by omega) (by omega); omega
    have h28 := zg_at ex28
    refine ok_X12_in  (fun r29 f12 f13 f14 f15 f16 f17 => ?_)
    have j_62 : w_X12_find_62 Q 0 r8_0 v_acts v_labels v_tasks v_trail v_choices v_now v_spot v_slotNow v_textNow v_longNow v_steps v_limit v_isOver v_stamp v_isGoing v_goSlot v_goSubject v_goFrom v_goSteps v_hasSpan v_spanCaptures v_act v_actA v_actB v_labelAt v_task v_taskA v_taskB v_held v_reg v_trailOf v_trailOld v_choiceSort v_choiceAct v_choicePlace v_choiceTrail v_seen v_found v_span := by
      unfold w_X12_find_62
      exact hq (-4) 0 r8_0 v_acts v_labels v_tasks v_trail v_choices v_now v_spot v_slotNow v_textNow v_longNow v_steps v_limit v_isOver v_stamp v_isGoing v_goSlot v_goSubject v_goFrom v_goSteps v_hasSpan v_spanCaptures v_act v_actA v_actB v_labelAt v_task v_taskA v_taskB v_held v_reg v_trailOf v_trailOld v_choiceSort v_choiceAct v_choicePlace v_choiceTrail v_seen v_found v_span (by omega) (by omega) (by omega) (by omega) (by omega) (by omega) (by omega) (by omega) (by omega) (rp_mono b2 (by omega) (by omega)) (rp_mono b2 (by omega) (by omega)) (by exact u1)
    refine ⟨fun c32 => ?_, fun c32 => ?_⟩
    · have f18 : r29.toInt = 0 := i_eq (a := r29.toInt) (b := 0) rfl rfl c32
      exact j_62  
    · have f19 : r29.toInt ≠ 0 := i_ne (a := r29.toInt) (b := 0) rfl rfl c32
      refine ok_X12_in  (fun r39 f20 f21 f22 f23 f24 f25 => ?_)
      refine ⟨fun c42 => ?_, fun c42 => ?_⟩
      · have f26 : r39.toInt = 0 := i_eq (a := r39.toInt) (b := 0) rfl rfl c42
        exact j_62  
      · have f27 : r39.toInt ≠ 0 := i_ne (a := r39.toInt) (b := 0) rfl rfl c42
        have j_65 : ((1 ≤ p4.toInt) ∨ (1 ≤ p5.toInt)) → ((1 ≤ p4.toInt) ∨ (p5.toInt ≤ 3000)) → w_X12_find_65 p1 p2 p3 p4 p5 v_many v_captures v_sort v_value v_least v_most v_parts v_end v_size v_positions v_firstPart v_mayEmpty v_inCase v_partBegin v_partEnd v_long0 v_signs Q 0 r8_0 v_acts v_labels v_tasks v_trail v_choices v_now v_spot v_slotNow v_textNow v_longNow v_steps v_limit v_isOver v_stamp v_isGoing v_goSlot v_goSubject v_goFrom v_goSteps v_hasSpan v_spanCaptures v_act v_actA v_actB v_labelAt v_task v_taskA v_taskB v_held v_reg v_trailOf v_trailOld v_choiceSort v_choiceAct v_choicePlace v_choiceTrail v_seen v_found v_span := by
          intro f28 f29
          unfold w_X12_find_65
          refine ok_X12_bars (v_holder := v_holder) (v_parts := v_parts) (v_end := v_end) (v_firstPart := v_firstPart) (v_partBegin := v_partBegin) (v_partEnd := v_partEnd) (v_captures := v_captures) (by omega) (by omega) (by exact hS) (fun r69 f30 u69_0 u69_1 => ?_)
          refine ⟨fun c76 => ?_, fun c76 => ?_⟩
          · have f31 : r69.toInt = 0 := i_eq (a := r69.toInt) (b := 0) rfl rfl c76
            refine ⟨fun c104 => ?_, fun c104 => ?_⟩
            · have f32 : p4.toInt ≠ 0 := i_ne (a := p4.toInt) (b := 0) rfl rfl c104
              refine ok_X12_compile (gZ := (fun c => zg v_size (220 * p1.toInt + c))) (gfi := 1) (v_holder := v_holder) (v_parts := v_parts) (v_firstPart := v_firstPart) (v_partBegin := v_partBegin) (v_partEnd := v_partEnd) (v_acts := v_acts) (v_labels := v_labels) (v_tasks := v_tasks) (v_many := v_many) (v_captures := v_captures) (gP := (fun _ => 0)) (gE := 0) (by omega) (by omega) (by omega) (by omega) (by exact hS) (by exact zZ_f hS hM) (by exact (by have h9 := (u69_1 (by omega)).1 (by omega); show zg v_size (220 * p1.toInt + 0) ≤ 220; rw [Int.add_zero]; omega)) (by exact Or.inl ⟨rfl, by decide⟩) (by exact fun _ => ⟨u69_0 (by omega) (by omega), (by have h9 := (u69_1 (by omega)).1 (by omega); show zg v_size (220 * p1.toInt + 0) ≤ 200; rw [Int.add_zero]; omega)⟩) (by exact fun z => absurd z (by decide)) (fun r117_0 r117_1 r117_2 r117_3 r117_4 r117_5 r117_6 r117_7 r117_8 r117_9 r117_10 f33 f34 f35 f36 f37 f38 f39 f40 u117_0 u117_1 => ?_)
              refine ok_X12_searched (gfi := 1) (gN := r117_0.toInt) (v_holder := v_holder) (v_end := v_end) (v_many := v_many) (v_captures := v_captures) (v_steps := v_steps) (by omega) (by omega) (by omega) (by omega) (by omega) (by omega) (by omega) (by omega) (by omega) (by omega) (by omega) (rp_mono b0 (by omega) (by omega)) (rp_mono b1 (by omega) (by omega)) (rp_mono b2 (by omega) (by omega)) (by exact u117_0) (by exact hS) (by exact Or.inl ⟨rfl, by decide⟩) (by omega) (fun r127 r127_0 r127_1 r127_2 r127_3 r127_4 r127_5 r127_6 r127_7 r127_8 r127_9 r127_10 r127_11 r127_12 r127_13 r127_14 r127_15 r127_16 r127_17 r127_18 r127_19 f41 f42 f43 f44 f45 f46 f47 f48 f49 f50 f51 f52 f53 f54 h55 h56 u127_0 => ?_)
              have j_145 : ∀ (s0_145 : Int32), 0 ≤ s0_145.toInt + 9 → s0_145.toInt ≤ 2 → ((s0_145.toInt = 0) ∨ (s0_145.toInt = 1 ∧ r127.toInt = 1)) → w_X12_find_145 v_captures Q s0_145 p1 r127 0 r8_0 r117_0 r117_1 r117_2 r127_0 r127_1 r127_2 r127_3 r127_4 r127_5 r127_6 r127_7 r127_8 r127_9 r127_10 false p1 p2 p3 v_goSteps v_hasSpan v_spanCaptures r117_3 r117_4 r117_5 r117_6 r117_7 r117_8 r117_9 r117_10 r127_11 r127_12 r127_13 r127_14 r127_15 r127_16 r127_17 r127_18 r127_19 v_span := by
                intro s0_145 f57 f58 f59
                unfold w_X12_find_145
                refine ok_X12_keepSpan (v_sort := v_sort) (v_value := v_value) (v_least := v_least) (v_most := v_most) (v_holder := v_holder) (v_parts := v_parts) (v_end := v_end) (v_firstPart := v_firstPart) (v_partBegin := v_partBegin) (v_partEnd := v_partEnd) (v_many := v_many) (by omega) (by omega) (by omega) (by omega) (by exact hS) (fun r145_0 r145_1 r145_2 f60 f61 f62 => ?_)
                exact hq r127 0 r8_0 r117_0 r117_1 r117_2 r127_0 r127_1 r127_2 r127_3 r127_4 r127_5 r127_6 r127_7 r127_8 r127_9 r127_10 false p1 p2 p3 v_goSteps r145_0 r145_1 r117_3 r117_4 r117_5 r117_6 r117_7 r117_8 r117_9 r117_10 r127_11 r127_12 r127_13 r127_14 r127_15 r127_16 r127_17 r127_18 r127_19 r145_2 (by omega) (by omega) (by omega) (by omega) (by omega) (by omega) (by omega) (by omega) (by omega) (rp_mono h55 (by omega) (by omega)) (rp_mono h55 (by omega) (by omega)) (by exact zGi_n rfl)
              refine ⟨fun c137 => ?_, fun c137 => ?_⟩
              · have f63 : r127.toInt ≠ 1 := i_ne (a := r127.toInt) (b := 1) rfl rfl c137
                exact j_145 0 (by omega) (by omega) (by omega)
              · have f64 : r127.toInt = 1 := i_eq (a := r127.toInt) (b := 1) rfl rfl c137
                exact j_145 1 (by omega) (by omega) (by omega)
            · have f65 : p4.toInt = 0 := i_eq (a := p4.toInt) (b := 0) rfl rfl c104
              refine ok_X12_goes (v_holder := v_holder) (v_many := v_many) (by omega) (by omega) (by omega) (by omega) (by omega) (by omega) (by omega) (by omega) (by omega) (rp_mono b0 (by omega) (by omega)) (rp_mono b1 (by omega) (by omega)) (rp_mono b2 (by omega) (by omega)) (by exact hS) (by omega) (fun r110 r110_0 r110_1 r110_2 r110_3 r110_4 r110_5 r110_6 r110_7 r110_8 r110_9 r110_10 r110_11 r110_12 r110_13 r110_14 r110_15 r110_16 r110_17 r110_18 r110_19 r110_20 r110_21 r110_22 r110_23 r110_24 r110_25 r110_26 r110_27 r110_28 r110_29 r110_30 r110_31 r110_32 r110_33 r110_34 r110_35 f66 f67 f68 f69 f70 f71 f72 f73 f74 f75 f76 f77 f78 f79 f80 f81 f82 f83 f84 f85 f86 f87 f88 f89 f90 f91 f92 h93 => ?_)
              exact hq r110 0 r8_0 r110_0 r110_1 r110_2 r110_3 r110_4 r110_5 r110_6 r110_7 r110_8 r110_9 r110_10 r110_11 r110_12 r110_13 r110_14 p1 p2 p3 r110_15 r110_16 r110_17 r110_18 r110_19 r110_20 r110_21 r110_22 r110_23 r110_24 r110_25 r110_26 r110_27 r110_28 r110_29 r110_30 r110_31 r110_32 r110_33 r110_34 r110_35 (by omega) (by omega) (by omega) (by omega) (by omega) (by omega) (by omega) (by omega) (by omega) (rp_mono h93 (by omega) (by omega)) (rp_mono h93 (by omega) (by omega)) (by exact fun _ => ⟨⟨⟨by omega, by omega⟩, u8_0 (by omega)⟩, ⟨by omega, by omega⟩, ⟨by omega, by omega⟩, ⟨by omega, by omega⟩⟩)
          · have f94 : r69.toInt ≠ 0 := i_ne (a := r69.toInt) (b := 0) rfl rfl c76
            exact hq r69 0 r8_0 v_acts v_labels v_tasks v_trail v_choices v_now v_spot v_slotNow v_textNow v_longNow v_steps v_limit v_isOver v_stamp v_isGoing v_goSlot v_goSubject v_goFrom v_goSteps v_hasSpan v_spanCaptures v_act v_actA v_actB v_labelAt v_task v_taskA v_taskB v_held v_reg v_trailOf v_trailOld v_choiceSort v_choiceAct v_choicePlace v_choiceTrail v_seen v_found v_span (by omega) (by omega) (by omega) (by omega) (by omega) (by omega) (by omega) (by omega) (by omega) (rp_mono b2 (by omega) (by omega)) (rp_mono b2 (by omega) (by omega)) (by exact u1)
        refine ⟨fun c47 => ?_, fun c47 => ?_⟩
        · have f95 : p4.toInt ≠ 0 := i_ne (a := p4.toInt) (b := 0) rfl rfl c47
          exact j_65  (by omega) (by omega)
        · have f96 : p4.toInt = 0 := i_eq (a := p4.toInt) (b := 0) rfl rfl c47
          refine ok_X12_in  (fun r56 f97 f98 f99 f100 f101 f102 => ?_)
          refine ⟨fun c59 => ?_, fun c59 => ?_⟩
          · have f103 : r56.toInt ≠ 0 := i_ne (a := r56.toInt) (b := 0) rfl rfl c59
            exact j_65  (by omega) (by omega)
          · have f104 : r56.toInt = 0 := i_eq (a := r56.toInt) (b := 0) rfl rfl c59
            exact j_62  
  · have f105 : r8.toInt ≠ 0 := i_ne (a := r8.toInt) (b := 0) rfl rfl c15
    exact hq r8 0 r8_0 v_acts v_labels v_tasks v_trail v_choices v_now v_spot v_slotNow v_textNow v_longNow v_steps v_limit v_isOver v_stamp v_isGoing v_goSlot v_goSubject v_goFrom v_goSteps v_hasSpan v_spanCaptures v_act v_actA v_actB v_labelAt v_task v_taskA v_taskB v_held v_reg v_trailOf v_trailOld v_choiceSort v_choiceAct v_choicePlace v_choiceTrail v_seen v_found v_span (by omega) (by omega) (by omega) (by omega) (by omega) (by omega) (by omega) (by omega) (by omega) (rp_mono b2 (by omega) (by omega)) (rp_mono b2 (by omega) (by omega)) (by exact u1)
set_option maxHeartbeats 4000000 in
theorem ok_X12_put_ {p1 : Int32} {p2 : Int32} {p3 : Int64} {v_isGoing : Bool} {v_goSubject : Int32} {v_isSubject : Nat → Bool} {v_long0 : Nat → Int32} {v_signs : Nat → Int32} {Q : Int32 → Int32 → Bool → (Nat → Bool) → (Nat → Int32) → (Nat → Int32) → Prop} (a0 : 0 ≤ v_goSubject.toInt) (a1 : v_goSubject.toInt ≤ 3) (b0 : rp (fun k v => 0 ≤ v ∧ v ≤ 100) v_long0 0 4) (b1 : rp (fun k v => 0 ≤ v ∧ v ≤ 65535) v_signs 0 400) (hq : ∀ (r : Int32) (ov_thrown : Int32) (ov_isGoing : Bool) (ov_isSubject : Nat → Bool) (ov_long0 : Nat → Int32) (ov_signs : Nat → Int32), ov_thrown.toInt = 0 → 0 ≤ r.toInt + 9 → r.toInt ≤ 100 → rp (fun k v => 0 ≤ v ∧ v ≤ 100) ov_long0 0 4 → rp (fun k v => 0 ≤ v ∧ v ≤ 100) ov_long0 0 (ov_thrown.toInt + 4) → rp (fun k v => 0 ≤ v ∧ v ≤ 100) ov_long0 ov_thrown.toInt 4 → rp (fun k v => 0 ≤ v ∧ v ≤ 100) ov_long0 ov_thrown.toInt (ov_thrown.toInt + 4) → rp (fun k v => 0 ≤ v ∧ v ≤ 65535) ov_signs 0 400 → rp (fun k v => 0 ≤ v ∧ v ≤ 65535) ov_signs 0 (ov_thrown.toInt + 400) → rp (fun k v => 0 ≤ v ∧ v ≤ 65535) ov_signs ov_thrown.toInt 400 → rp (fun k v => 0 ≤ v ∧ v ≤ 65535) ov_signs ov_thrown.toInt (ov_thrown.toInt + 400) → rp (fun k v => 0 ≤ v ∧ v ≤ 100) ov_long0 (r.toInt + 9) 4 → rp (fun k v => 0 ≤ v ∧ v ≤ 100) ov_long0 (r.toInt + 9) (ov_thrown.toInt + 4) → rp (fun k v => 0 ≤ v ∧ v ≤ 65535) ov_signs (r.toInt + 9) 400 → rp (fun k v => 0 ≤ v ∧ v ≤ 65535) ov_signs (r.toInt + 9) (ov_thrown.toInt + 400) → (zPt v_isSubject v_long0 p1.toInt p2.toInt ov_isSubject ov_long0) → (∀ (it : Nat → Bool) (s f st : Int), zGi v_isGoing it v_long0 s v_goSubject.toInt f st → zGi ov_isGoing it ov_long0 s v_goSubject.toInt f st) → ((¬ (0 ≤ p1.toInt ∧ p1.toInt ≤ 3) ∧ r.toInt = -2) ∨ ((0 ≤ p1.toInt ∧ p1.toInt ≤ 3) ∧ ¬ (0 ≤ p2.toInt ∧ p2.toInt ≤ 4) ∧ r.toInt = -4) ∨ ((0 ≤ p1.toInt ∧ p1.toInt ≤ 3) ∧ (0 ≤ p2.toInt ∧ p2.toInt ≤ 4) ∧ 100 < zln v_isSubject v_long0 p1.toInt + p2.toInt ∧ r.toInt = -9) ∨ ((0 ≤ p1.toInt ∧ p1.toInt ≤ 3) ∧ (0 ≤ p2.toInt ∧ p2.toInt ≤ 4) ∧ zln v_isSubject v_long0 p1.toInt + p2.toInt ≤ 100 ∧ r.toInt = zln v_isSubject v_long0 p1.toInt + p2.toInt)) → Q r ov_thrown ov_isGoing ov_isSubject ov_long0 ov_signs) : w_X12_put_ p1 p2 p3 v_isGoing v_goSubject v_isSubject v_long0 v_signs Q := by
  have q_t : (bz true).toInt = 1 := rfl
  have q_f : (bz false).toInt = 0 := rfl
  have q_m9 : ((-9) : Int32).toInt = (-9) := rfl
  have q_m4 : ((-4) : Int32).toInt = (-4) := rfl
  have q_m2 : ((-2) : Int32).toInt = (-2) := rfl
  have q_0 : (0 : Int32).toInt = 0 := rfl
  have q_1 : (1 : Int32).toInt = 1 := rfl
  have q_3 : (3 : Int32).toInt = 3 := rfl
  have q_4 : (4 : Int32).toInt = 4 := rfl
  unfold w_X12_put_
  refine ok_X12_in  (fun r8 f1 f2 f3 f4 f5 f6 => ?_)
  refine ⟨fun c11 => ?_, fun c11 => ?_⟩
  · have f7 : r8.toInt ≠ 0 := i_ne (a := r8.toInt) (b := 0) rfl rfl c11
    refine ok_X12_in  (fun r20 f8 f9 f10 f11 f12 f13 => ?_)
    refine ⟨fun c23 => ?_, fun c23 => ?_⟩
    · have f14 : r20.toInt ≠ 0 := i_ne (a := r20.toInt) (b := 0) rfl rfl c23
      refine ⟨i_in (by omega) (by omega), ?_⟩
      intro x34 ex34
      have f15 : (0 ≤ x34.toInt ∧ x34.toInt ≤ 1) := i_bz ex34
      have j_48 : ∀ (s0_48 : Int32), ((s0_48.toInt = 0 ∧ x34.toInt = 0) ∨ (0 ≤ s0_48.toInt ∧ s0_48.toInt ≤ 100)) → (s0_48.toInt = zln v_isSubject v_long0 p1.toInt) → w_X12_put__48 p1 p2 p3 v_goSubject Q s0_48 0 v_isGoing v_isSubject v_long0 v_signs := by
        intro s0_48 f16 u48_0
        unfold w_X12_put__48
        intro x53 ex53
        have f17 : x53.toInt = s0_48.toInt + p2.toInt := i_add (a := s0_48.toInt) (b := p2.toInt) ex53 rfl rfl (by omega) (by omega)
        refine ⟨fun c56 => ?_, fun c56 => ?_⟩
        · have f18 : x53.toInt ≤ 100 := i_le (a := x53.toInt) (b := 100) rfl rfl c56
          have j_65 : ∀ n_65 : Nat, ∀ (l6_65 : Int32) (v_signs_65 : Nat → Int32), 0 ≤ l6_65.toInt → l6_65.toInt ≤ p2.toInt → rp (fun k v => 0 ≤ v ∧ v ≤ 65535) v_signs_65 0 400 → rp (fun k v => 0 ≤ v ∧ v ≤ 65535) v_signs_65 l6_65.toInt 400 → ((-1) * l6_65.toInt + 16).toNat < n_65 → w_X12_put__65 p1 p2 p3 v_goSubject Q s0_48 0 v_isGoing v_isSubject v_long0 n_65 l6_65 v_signs_65 := by
            intro n_65
            induction n_65 with
            | zero =>
              intro l6_65 v_signs_65 f19 f20 h21 h22 hm_65
              exfalso; omega
            | succ n_65 ih_65 =>
              intro l6_65 v_signs_65 f19 f20 h21 h22 hm_65
              unfold w_X12_put__65
              unfold w_X12_put__65B
              refine ⟨fun c68 => ?_, fun c68 => ?_⟩
              · have f23 : p2.toInt ≤ l6_65.toInt := i_le (a := p2.toInt) (b := l6_65.toInt) rfl rfl c68
                refine ⟨i_in (by omega) (by omega), ?_⟩
                intro g114 eg114
                intro x123 ex123
                have f24 : x123.toInt = s0_48.toInt + p2.toInt := i_add (a := s0_48.toInt) (b := p2.toInt) ex123 rfl rfl (by omega) (by omega)
                refine ⟨i_in (by omega) (by omega), ?_⟩
                intro g124 eg124
                have h25 : rp (fun k v => 0 ≤ v ∧ v ≤ 100) g124 0 4 := rp_upd (P := (fun k v => 0 ≤ v ∧ v ≤ 100)) (a := p1.toInt) (b := x123.toInt) b0 eg124 rfl rfl (by omega) ⟨(by omega), (by omega)⟩
                have f26 : (0 ≤ (bz v_isGoing).toInt ∧ (bz v_isGoing).toInt ≤ 1) := i_bzr v_isGoing
                have j_146 : ∀ (s0_146 : Int32), ((s0_146.toInt = 1) ∨ (s0_146.toInt = 0)) → (zPt v_isSubject v_long0 p1.toInt p2.toInt g114 g124) → (s0_146.toInt = 1 → (v_isGoing = true ∧ v_goSubject.toInt ≠ p1.toInt)) → (g124 = g124) → w_X12_put__146 p2 Q s0_146 s0_48 0 v_isGoing g114 g124 v_signs_65 := by
                  intro s0_146 f27 u146_0 u146_1 u146_2
                  unfold w_X12_put__146
                  refine ⟨i_01 (by omega) (by omega), ?_⟩
                  intro b146 eb146
                  have f28 : (bz b146).toInt = s0_146.toInt := by rw [← eb146]
                  intro x152 ex152
                  have f29 : x152.toInt = s0_48.toInt + p2.toInt := i_add (a := s0_48.toInt) (b := p2.toInt) ex152 rfl rfl (by omega) (by omega)
                  exact hq x152 0 b146 g114 g124 v_signs_65 (by omega) (by omega) (by omega) (rp_mono h25 (by omega) (by omega)) (rp_mono h25 (by omega) (by omega)) (rp_mono h25 (by omega) (by omega)) (rp_mono h25 (by omega) (by omega)) (rp_mono h21 (by omega) (by omega)) (rp_mono h21 (by omega) (by omega)) (rp_mono h21 (by omega) (by omega)) (rp_mono h21 (by omega) (by omega)) (rp_mono h25 (by omega) (by omega)) (rp_mono h25 (by omega) (by omega)) (rp_mono h22 (by omega) (by omega)) (rp_mono h22 (by omega) (by omega)) (by assumption) (by exact fun _ _ _ _ h => zGi_put h eg124 (by omega) (fun z => u146_1 (zbz2 z (by assumption)))) (by omega)
                have j_145 : (((bz v_isGoing).toInt = 0) ∨ (v_goSubject.toInt = p1.toInt)) → (zPt v_isSubject v_long0 p1.toInt p2.toInt g114 g124) → (g124 = g124) → w_X12_put__145 p2 Q s0_48 0 v_isGoing g114 g124 v_signs_65 := by
                  intro f30 u145_0 u145_1
                  unfold w_X12_put__145
                  exact j_146 0 (by omega) (by first | assumption | exact zPt_yes eg114 (by decide) eg124 u48_0 (by omega) (by omega) (by omega) (by omega)) (by first | exact fun _ => ⟨zbz1 (by omega), by omega⟩ | exact fun z => absurd z (by decide)) (by first | assumption | rfl)
                refine ⟨fun c130 => ?_, fun c130 => ?_⟩
                · have f31 : (bz v_isGoing).toInt = 0 := i_eq (a := (bz v_isGoing).toInt) (b := 0) rfl rfl c130
                  exact j_145  (by omega) (by exact zPt_yes eg114 (by decide) eg124 u48_0 (by omega) (by omega) (by omega) (by omega)) (by rfl)
                · have f32 : (bz v_isGoing).toInt ≠ 0 := i_ne (a := (bz v_isGoing).toInt) (b := 0) rfl rfl c130
                  refine ⟨fun c138 => ?_, fun c138 => ?_⟩
                  · have f33 : v_goSubject.toInt = p1.toInt := i_eq (a := v_goSubject.toInt) (b := p1.toInt) rfl rfl c138
                    exact j_145  (by omega) (by exact zPt_yes eg114 (by decide) eg124 u48_0 (by omega) (by omega) (by omega) (by omega)) (by rfl)
                  · have f34 : v_goSubject.toInt ≠ p1.toInt := i_ne (a := v_goSubject.toInt) (b := p1.toInt) rfl rfl c138
                    exact j_146 1 (by omega) (by first | assumption | exact zPt_yes eg114 (by decide) eg124 u48_0 (by omega) (by omega) (by omega) (by omega)) (by first | exact fun _ => ⟨zbz1 (by omega), by omega⟩ | exact fun z => absurd z (by decide)) (by first | assumption | rfl)
              · have f35 : l6_65.toInt < p2.toInt := i_nle (a := p2.toInt) (b := l6_65.toInt) rfl rfl c68
                intro x78 ex78
                have f36 : x78.toInt = 100 * p1.toInt := i_mul (a := 100) (b := p1.toInt) ex78 rfl rfl (by omega) (by omega)
                intro x81 ex81
                have f37 : x81.toInt = x78.toInt + s0_48.toInt := i_add (a := x78.toInt) (b := s0_48.toInt) ex81 rfl rfl (by omega) (by omega)
                intro x84 ex84
                have f38 : x84.toInt = x81.toInt + l6_65.toInt := i_add (a := x81.toInt) (b := l6_65.toInt) ex84 rfl rfl (by omega) (by omega)
                intro x90 ex90
                have f39 : x90.toInt = p2.toInt - 1 := i_sub (a := p2.toInt) (b := 1) ex90 rfl rfl (by omega) (by omega)
                intro x93 ex93
                have f40 : x93.toInt = x90.toInt - l6_65.toInt := i_sub (a := x90.toInt) (b := l6_65.toInt) ex93 rfl rfl (by omega) (by omega)
                intro x94 ex94
                have f41 : x94.toInt = 16 * x93.toInt := i_mul (a := 16) (b := x93.toInt) ex94 rfl rfl (by omega) (by omega)
                intro y95 ey95
                intro y99 ey99
                intro x100 ex100
                have f42 : 0 ≤ x100.toInt := (zl16 ey99 ex100).1
                have f43 : x100.toInt ≤ 65535 := (zl16 ey99 ex100).2
                refine ⟨i_in (by omega) (by omega), ?_⟩
                intro g101 eg101
                have h44 : rp (fun k v => 0 ≤ v ∧ v ≤ 65535) g101 0 400 := rp_upd (P := (fun k v => 0 ≤ v ∧ v ≤ 65535)) (a := x84.toInt) (b := x100.toInt) h21 eg101 rfl rfl (by omega) ⟨(by omega), (by omega)⟩
                have h45 : rp (fun k v => 0 ≤ v ∧ v ≤ 65535) g101 l6_65.toInt 400 := rp_upd (P := (fun k v => 0 ≤ v ∧ v ≤ 65535)) (a := x84.toInt) (b := x100.toInt) h22 eg101 rfl rfl (by omega) ⟨(by omega), (by omega)⟩
                intro x102 ex102
                have f46 : x102.toInt = l6_65.toInt + 1 := i_add (a := l6_65.toInt) (b := 1) ex102 rfl rfl (by omega) (by omega)
                exact ih_65 x102 g101  (by omega) (by omega) (rp_mono h44 (by omega) (by omega)) (rp_mono h45 (by omega) (by omega)) (by have h8_0 := i_rng l6_65; have h8_1 := i_rng x102; omega)
          exact ⟨(16 : Int).toNat + 1, j_65   ((16 : Int).toNat + 1) 0 v_signs  (by omega) (by omega) (rp_mono b1 (by omega) (by omega)) (rp_mono b1 (by omega) (by omega)) (by omega)⟩
        · have f47 : 100 < x53.toInt := i_nle (a := x53.toInt) (b := 100) rfl rfl c56
          exact hq (-9) 0 v_isGoing v_isSubject v_long0 v_signs (by omega) (by omega) (by omega) (rp_mono b0 (by omega) (by omega)) (rp_mono b0 (by omega) (by omega)) (rp_mono b0 (by omega) (by omega)) (rp_mono b0 (by omega) (by omega)) (rp_mono b1 (by omega) (by omega)) (rp_mono b1 (by omega) (by omega)) (rp_mono b1 (by omega) (by omega)) (rp_mono b1 (by omega) (by omega)) (rp_mono b0 (by omega) (by omega)) (rp_mono b0 (by omega) (by omega)) (rp_mono b1 (by omega) (by omega)) (rp_mono b1 (by omega) (by omega)) (by exact zPt_full u48_0 (by omega)) (by exact fun _ _ _ _ h => h) (by omega)
      refine ⟨fun c35 => ?_, fun c35 => ?_⟩
      · have f48 : x34.toInt = 0 := i_eq (a := x34.toInt) (b := 0) rfl rfl c35
        exact j_48 0 (by omega) (by first | exact zln_t ex34 (by omega) ex43 | exact zln_f ex34 (by omega))
      · have f49 : x34.toInt ≠ 0 := i_ne (a := x34.toInt) (b := 0) rfl rfl c35
        refine ⟨i_in (by omega) (by omega), ?_⟩
        intro x43 ex43
        have f50 : 0 ≤ x43.toInt ∧ x43.toInt ≤ 100 := by have h9 := rp_get (P := (fun k v => 0 ≤ v ∧ v ≤ 100)) (a := p1.toInt) b0 ex43 rfl (by omega) (by omega) (by omega); omega
        exact j_48 x43 (by omega) (by first | exact zln_t ex34 (by omega) ex43 | exact zln_f ex34 (by omega))
    · have f51 : r20.toInt = 0 := i_eq (a := r20.toInt) (b := 0) rfl rfl c23
      exact hq (-4) 0 v_isGoing v_isSubject v_long0 v_signs (by omega) (by omega) (by omega) (rp_mono b0 (by omega) (by omega)) (rp_mono b0 (by omega) (by omega)) (rp_mono b0 (by omega) (by omega)) (rp_mono b0 (by omega) (by omega)) (rp_mono b1 (by omega) (by omega)) (rp_mono b1 (by omega) (by omega)) (rp_mono b1 (by omega) (by omega)) (rp_mono b1 (by omega) (by omega)) (rp_mono b0 (by omega) (by omega)) (rp_mono b0 (by omega) (by omega)) (rp_mono b1 (by omega) (by omega)) (rp_mono b1 (by omega) (by omega)) (by exact zPt_no (by omega)) (by exact fun _ _ _ _ h => h) (by omega)
  · have f52 : r8.toInt = 0 := i_eq (a := r8.toInt) (b := 0) rfl rfl c11
    exact hq (-2) 0 v_isGoing v_isSubject v_long0 v_signs (by omega) (by omega) (by omega) (rp_mono b0 (by omega) (by omega)) (rp_mono b0 (by omega) (by omega)) (rp_mono b0 (by omega) (by omega)) (rp_mono b0 (by omega) (by omega)) (rp_mono b1 (by omega) (by omega)) (rp_mono b1 (by omega) (by omega)) (rp_mono b1 (by omega) (by omega)) (rp_mono b1 (by omega) (by omega)) (rp_mono b0 (by omega) (by omega)) (rp_mono b0 (by omega) (by omega)) (rp_mono b1 (by omega) (by omega)) (rp_mono b1 (by omega) (by omega)) (by exact zPt_no (by omega)) (by exact fun _ _ _ _ h => h) (by omega)
set_option maxHeartbeats 4000000 in
theorem ok_X12_drop {p1 : Int32} {v_finding : Int32} {v_isGoing : Bool} {v_goSubject : Int32} {v_isSubject : Nat → Bool} {v_long0 : Nat → Int32} {Q : Int32 → Int32 → Int32 → Bool → (Nat → Bool) → Prop} (a0 : 0 ≤ v_goSubject.toInt) (a1 : v_goSubject.toInt ≤ 3) (b0 : rp (fun k v => 0 ≤ v ∧ v ≤ 100) v_long0 0 4) (hq : ∀ (r : Int32) (ov_thrown : Int32) (ov_finding : Int32) (ov_isGoing : Bool) (ov_isSubject : Nat → Bool), ov_thrown.toInt = 0 → (((bz ov_isGoing).toInt = (bz v_isGoing).toInt) ∨ (0 ≤ (bz v_isGoing).toInt ∧ (bz v_isGoing).toInt ≤ 1 ∧ 0 ≤ r.toInt ∧ r.toInt ≤ 100)) → 0 ≤ r.toInt + 3 → r.toInt ≤ 100 → (zDr v_isSubject v_long0 p1.toInt r.toInt ov_isSubject) → (∀ (it : Nat → Bool) (s f st : Int), zGi v_isGoing it v_long0 s v_goSubject.toInt f st → zGi ov_isGoing it v_long0 s v_goSubject.toInt f st) → Q r ov_thrown ov_finding ov_isGoing ov_isSubject) : w_X12_drop p1 v_finding v_isGoing v_goSubject v_isSubject v_long0 Q := by
  have q_t : (bz true).toInt = 1 := rfl
  have q_f : (bz false).toInt = 0 := rfl
  have q_0 : (0 : Int32).toInt = 0 := rfl
  have q_1 : (1 : Int32).toInt = 1 := rfl
  unfold w_X12_drop
  refine ok_X12_wrongSubject  (fun r7 r7_0 f1 f2 f3 u7_0 u7_1 u7_2 => ?_)
  refine ⟨fun c12 => ?_, fun c12 => ?_⟩
  · have f4 : r7.toInt = 0 := i_eq (a := r7.toInt) (b := 0) rfl rfl c12
    refine ⟨i_in (by omega) (by omega), ?_⟩
    intro g23 eg23
    have f5 : (0 ≤ (bz v_isGoing).toInt ∧ (bz v_isGoing).toInt ≤ 1) := i_bzr v_isGoing
    have j_45 : ∀ (s0_45 : Int32), ((s0_45.toInt = 1) ∨ (s0_45.toInt = 0)) → (s0_45.toInt = 1 → v_isGoing = true) → w_X12_drop_45 p1 v_long0 Q s0_45 0 r7_0 v_isGoing g23 := by
      intro s0_45 f6 u45_0
      unfold w_X12_drop_45
      refine ⟨i_01 (by omega) (by omega), ?_⟩
      intro b45 eb45
      have f7 : (bz b45).toInt = s0_45.toInt := by rw [← eb45]
      refine ⟨i_in (by omega) (by omega), ?_⟩
      intro x53 ex53
      have f8 : 0 ≤ x53.toInt ∧ x53.toInt ≤ 100 := by have h9 := rp_get (P := (fun k v => 0 ≤ v ∧ v ≤ 100)) (a := p1.toInt) b0 ex53 rfl (by omega) (by omega) (by omega); omega
      exact hq x53 0 r7_0 b45 g23 (by omega) (by omega) (by omega) (by omega) (by exact zDr_y u7_0 (by omega) eg23 (by decide) ex53 (by omega)) (by exact fun _ _ _ _ h => zGi_drop h (fun z => u45_0 (zbz2 z (by assumption))))
    have j_44 : (((bz v_isGoing).toInt = 0) ∨ (v_goSubject.toInt = p1.toInt)) → (True) → w_X12_drop_44 p1 v_long0 Q 0 r7_0 v_isGoing g23 := by
      intro f9 u44_0
      unfold w_X12_drop_44
      exact j_45 0 (by omega) (by first | exact fun _ => zbz1 (by omega) | exact fun z => absurd z (by decide))
    refine ⟨fun c29 => ?_, fun c29 => ?_⟩
    · have f10 : (bz v_isGoing).toInt = 0 := i_eq (a := (bz v_isGoing).toInt) (b := 0) rfl rfl c29
      exact j_44  (by omega) (by trivial)
    · have f11 : (bz v_isGoing).toInt ≠ 0 := i_ne (a := (bz v_isGoing).toInt) (b := 0) rfl rfl c29
      refine ⟨fun c37 => ?_, fun c37 => ?_⟩
      · have f12 : v_goSubject.toInt = p1.toInt := i_eq (a := v_goSubject.toInt) (b := p1.toInt) rfl rfl c37
        exact j_44  (by omega) (by trivial)
      · have f13 : v_goSubject.toInt ≠ p1.toInt := i_ne (a := v_goSubject.toInt) (b := p1.toInt) rfl rfl c37
        exact j_45 1 (by omega) (by first | exact fun _ => zbz1 (by omega) | exact fun z => absurd z (by decide))
  · have f14 : r7.toInt ≠ 0 := i_ne (a := r7.toInt) (b := 0) rfl rfl c12
    exact hq r7 0 r7_0 v_isGoing v_isSubject (by omega) (by omega) (by omega) (by omega) (by exact zDr_w (by omega) (by omega) u7_1 u7_2) (by exact fun _ _ _ _ h => h)
set_option maxHeartbeats 4000000 in
theorem ok_X12_forget {p1 : Int32} {v_finding : Int32} {v_isGoing : Bool} {v_goSlot : Int32} {v_isThere : Nat → Bool} {v_many : Nat → Int32} {v_captures : Nat → Int32} {v_sort : Nat → Int32} {v_value : Nat → Int32} {v_least : Nat → Int32} {v_most : Nat → Int32} {v_holder : Nat → Int32} {v_parts : Nat → Int32} {v_end : Nat → Int32} {v_firstPart : Nat → Int32} {v_partBegin : Nat → Int32} {v_partEnd : Nat → Int32} {v_size : Nat → Int32} {v_positions : Nat → Int32} {Q : Int32 → Int32 → Int32 → Bool → (Nat → Bool) → Prop} (a0 : 0 ≤ v_goSlot.toInt) (a1 : v_goSlot.toInt ≤ 5) (u0 : zAll v_isThere v_many v_captures v_sort v_value v_least v_most v_holder v_parts v_end v_firstPart v_partBegin v_partEnd v_size v_positions) (u1 : zGo v_isGoing v_isThere v_goSlot.toInt) (hq : ∀ (r : Int32) (ov_thrown : Int32) (ov_finding : Int32) (ov_isGoing : Bool) (ov_isThere : Nat → Bool), ov_thrown.toInt = 0 → ((r.toInt + 2 = 0 ∧ (bz ov_isGoing).toInt = (bz v_isGoing).toInt) ∨ (r.toInt = 1 ∧ 0 ≤ (bz v_isGoing).toInt ∧ (bz v_isGoing).toInt ≤ 1 ∧ (bz ov_isGoing).toInt ≤ (bz v_isGoing).toInt)) → (zAll ov_isThere v_many v_captures v_sort v_value v_least v_most v_holder v_parts v_end v_firstPart v_partBegin v_partEnd v_size v_positions) → (zGo ov_isGoing ov_isThere v_goSlot.toInt) → Q r ov_thrown ov_finding ov_isGoing ov_isThere) : w_X12_forget p1 v_finding v_isGoing v_goSlot v_isThere Q := by
  have q_t : (bz true).toInt = 1 := rfl
  have q_f : (bz false).toInt = 0 := rfl
  have q_m2 : ((-2) : Int32).toInt = (-2) := rfl
  have q_0 : (0 : Int32).toInt = 0 := rfl
  have q_1 : (1 : Int32).toInt = 1 := rfl
  unfold w_X12_forget
  refine ok_X12_wrongSlot  (fun r7 r7_0 f1 f2 f3 u7_0 => ?_)
  refine ⟨fun c10 => ?_, fun c10 => ?_⟩
  · have f4 : r7.toInt = 0 := i_eq (a := r7.toInt) (b := 0) rfl rfl c10
    refine ⟨i_in (by omega) (by omega), ?_⟩
    intro g22 eg22
    have f5 : (0 ≤ (bz v_isGoing).toInt ∧ (bz v_isGoing).toInt ≤ 1) := i_bzr v_isGoing
    have j_44 : ∀ (s0_44 : Int32), s0_44.toInt ≤ (bz v_isGoing).toInt → ((s0_44.toInt = 1) ∨ (s0_44.toInt = 0)) → (s0_44.toInt = 1 → (v_isGoing = true ∧ v_goSlot.toInt ≠ p1.toInt)) → w_X12_forget_44 Q s0_44 0 r7_0 v_isGoing g22 := by
      intro s0_44 f6 f7 u44_0
      unfold w_X12_forget_44
      refine ⟨i_01 (by omega) (by omega), ?_⟩
      intro b44 eb44
      have f8 : (bz b44).toInt = s0_44.toInt := by rw [← eb44]
      exact hq 1 0 r7_0 b44 g22 (by omega) (by omega) (by exact zAll_off u0 eg22 (by decide) (by omega)) (by exact zGo_off u1 eg22 (by omega) (by omega) (fun z => u44_0 (zbz2 z (by assumption))))
    have j_43 : (((bz v_isGoing).toInt = 0) ∨ (v_goSlot.toInt = p1.toInt)) → (True) → w_X12_forget_43 Q 0 r7_0 v_isGoing g22 := by
      intro f9 u43_0
      unfold w_X12_forget_43
      exact j_44 0 (by omega) (by omega) (by first | exact fun _ => ⟨zbz1 (by omega), by omega⟩ | exact fun z => absurd z (by decide))
    refine ⟨fun c28 => ?_, fun c28 => ?_⟩
    · have f10 : (bz v_isGoing).toInt = 0 := i_eq (a := (bz v_isGoing).toInt) (b := 0) rfl rfl c28
      exact j_43  (by omega) (by trivial)
    · have f11 : (bz v_isGoing).toInt ≠ 0 := i_ne (a := (bz v_isGoing).toInt) (b := 0) rfl rfl c28
      refine ⟨fun c36 => ?_, fun c36 => ?_⟩
      · have f12 : v_goSlot.toInt = p1.toInt := i_eq (a := v_goSlot.toInt) (b := p1.toInt) rfl rfl c36
        exact j_43  (by omega) (by trivial)
      · have f13 : v_goSlot.toInt ≠ p1.toInt := i_ne (a := v_goSlot.toInt) (b := p1.toInt) rfl rfl c36
        exact j_44 1 (by omega) (by omega) (by first | exact fun _ => ⟨zbz1 (by omega), by omega⟩ | exact fun z => absurd z (by decide))
  · have f14 : r7.toInt ≠ 0 := i_ne (a := r7.toInt) (b := 0) rfl rfl c10
    exact hq (-2) 0 r7_0 v_isGoing v_isThere (by omega) (by omega) (by assumption) (by assumption)
set_option maxHeartbeats 4000000 in
theorem ok_X12_pattern {p1 : Int32} {v_taped : Int32} {v_faultPlace : Int32} {v_newNodes : Int32} {v_newParts : Int32} {v_fault : Int32} {v_faultAt : Int32} {v_at : Int32} {v_items : Int32} {v_newCaptures : Int32} {v_depth : Int32} {v_memberValue : Int32} {v_memberEnd : Int32} {v_loopLeast : Int32} {v_loopMost : Int32} {v_isGoing : Bool} {v_goSlot : Int32} {v_tape : Nat → Int32} {v_isThere : Nat → Bool} {v_many : Nat → Int32} {v_captures : Nat → Int32} {v_nameOf : Nat → Int32} {v_sort : Nat → Int32} {v_value : Nat → Int32} {v_least : Nat → Int32} {v_most : Nat → Int32} {v_holder : Nat → Int32} {v_parts : Nat → Int32} {v_end : Nat → Int32} {v_size : Nat → Int32} {v_positions : Nat → Int32} {v_firstPart : Nat → Int32} {v_mayEmpty : Nat → Bool} {v_inCase : Nat → Bool} {v_partBegin : Nat → Int32} {v_partEnd : Nat → Int32} {v_newSort : Nat → Int32} {v_newValue : Nat → Int32} {v_newLeast : Nat → Int32} {v_newMost : Nat → Int32} {v_newFirst : Nat → Int32} {v_newNext : Nat → Int32} {v_newMany : Nat → Int32} {v_newPart : Nat → Int32} {v_newBegin : Nat → Int32} {v_newEnd : Nat → Int32} {v_newNames : Nat → Int32} {v_groupSort : Nat → Int32} {v_groupValue : Nat → Int32} {v_rowFirst : Nat → Int32} {v_rowLast : Nat → Int32} {v_rowMany : Nat → Int32} {v_rowsFirst : Nat → Int32} {v_rowsLast : Nat → Int32} {v_rowsMany : Nat → Int32} {v_waiting : Nat → Int32} {v_waitingHolder : Nat → Int32} {Q : Int32 → Int32 → Int32 → Int32 → Int32 → Int32 → Int32 → Int32 → Int32 → Int32 → Int32 → Int32 → Int32 → Int32 → Int32 → Int32 → Bool → (Nat → Bool) → (Nat → Int32) → (Nat → Int32) → (Nat → Int32) → (Nat → Int32) → (Nat → Int32) → (Nat → Int32) → (Nat → Int32) → (Nat → Int32) → (Nat → Int32) → (Nat → Int32) → (Nat → Int32) → (Nat → Int32) → (Nat → Int32) → (Nat → Bool) → (Nat → Bool) → (Nat → Int32) → (Nat → Int32) → (Nat → Int32) → (Nat → Int32) → (Nat → Int32) → (Nat → Int32) → (Nat → Int32) → (Nat → Int32) → (Nat → Int32) → (Nat → Int32) → (Nat → Int32) → (Nat → Int32) → (Nat → Int32) → (Nat → Int32) → (Nat → Int32) → (Nat → Int32) → (Nat → Int32) → (Nat → Int32) → (Nat → Int32) → (Nat → Int32) → (Nat → Int32) → (Nat → Int32) → (Nat → Int32) → Prop} (a0 : 0 ≤ v_taped.toInt) (a1 : v_taped.toInt ≤ 200) (a2 : 0 ≤ v_goSlot.toInt) (a3 : v_goSlot.toInt ≤ 5) (b0 : rp (fun k v => 32 ≤ v ∧ v ≤ 126) v_tape 0 v_taped.toInt) (b1 : qp2 (fun k m l => (m = 0) ∨ (0 ≤ l ∧ l ≤ 259)) v_rowMany v_rowFirst 0 12) (b2 : qp2 (fun k m l => (m = 0) ∨ (0 ≤ l ∧ l ≤ 259)) v_rowsMany v_rowsFirst 0 12) (b3 : qp2 (fun k m l => (m = 0) ∨ (0 ≤ l ∧ l ≤ 259)) v_rowMany v_rowLast 0 12) (b4 : qp2 (fun k m l => (m = 0) ∨ (0 ≤ l ∧ l ≤ 259)) v_rowsMany v_rowsLast 0 12) (b5 : rp (fun k v => -1 ≤ v ∧ v ≤ 259) v_rowFirst 0 12) (b6 : rp (fun k v => -1 ≤ v ∧ v ≤ 259) v_rowLast 0 12) (b7 : rp (fun k v => -1 ≤ v ∧ v ≤ 259) v_rowsFirst 0 12) (b8 : rp (fun k v => -1 ≤ v ∧ v ≤ 259) v_rowsLast 0 12) (u0 : zAll v_isThere v_many v_captures v_sort v_value v_least v_most v_holder v_parts v_end v_firstPart v_partBegin v_partEnd v_size v_positions) (u1 : zGo v_isGoing v_isThere v_goSlot.toInt) (hq : ∀ (r : Int32) (ov_thrown : Int32) (ov_taped : Int32) (ov_faultPlace : Int32) (ov_newNodes : Int32) (ov_newParts : Int32) (ov_fault : Int32) (ov_faultAt : Int32) (ov_at : Int32) (ov_items : Int32) (ov_newCaptures : Int32) (ov_depth : Int32) (ov_memberValue : Int32) (ov_memberEnd : Int32) (ov_loopLeast : Int32) (ov_loopMost : Int32) (ov_isGoing : Bool) (ov_isThere : Nat → Bool) (ov_many : Nat → Int32) (ov_captures : Nat → Int32) (ov_nameOf : Nat → Int32) (ov_sort : Nat → Int32) (ov_value : Nat → Int32) (ov_least : Nat → Int32) (ov_most : Nat → Int32) (ov_holder : Nat → Int32) (ov_parts : Nat → Int32) (ov_end : Nat → Int32) (ov_size : Nat → Int32) (ov_positions : Nat → Int32) (ov_firstPart : Nat → Int32) (ov_mayEmpty : Nat → Bool) (ov_inCase : Nat → Bool) (ov_partBegin : Nat → Int32) (ov_partEnd : Nat → Int32) (ov_newSort : Nat → Int32) (ov_newValue : Nat → Int32) (ov_newLeast : Nat → Int32) (ov_newMost : Nat → Int32) (ov_newFirst : Nat → Int32) (ov_newNext : Nat → Int32) (ov_newMany : Nat → Int32) (ov_newPart : Nat → Int32) (ov_newBegin : Nat → Int32) (ov_newEnd : Nat → Int32) (ov_newNames : Nat → Int32) (ov_groupSort : Nat → Int32) (ov_groupValue : Nat → Int32) (ov_rowFirst : Nat → Int32) (ov_rowLast : Nat → Int32) (ov_rowMany : Nat → Int32) (ov_rowsFirst : Nat → Int32) (ov_rowsLast : Nat → Int32) (ov_rowsMany : Nat → Int32) (ov_waiting : Nat → Int32) (ov_waitingHolder : Nat → Int32), ov_thrown.toInt = 0 → ov_taped.toInt ≤ v_taped.toInt → 0 ≤ ov_taped.toInt → (bz ov_isGoing).toInt ≤ (bz v_isGoing).toInt → qp2 (fun k m l => (m = 0) ∨ (0 ≤ l ∧ l ≤ 259)) ov_rowMany ov_rowFirst 0 12 → qp2 (fun k m l => (m = 0) ∨ (0 ≤ l ∧ l ≤ 259)) ov_rowMany ov_rowFirst 0 (ov_thrown.toInt + 12) → qp2 (fun k m l => (m = 0) ∨ (0 ≤ l ∧ l ≤ 259)) ov_rowMany ov_rowFirst ov_thrown.toInt 12 → qp2 (fun k m l => (m = 0) ∨ (0 ≤ l ∧ l ≤ 259)) ov_rowMany ov_rowFirst ov_thrown.toInt (ov_thrown.toInt + 12) → qp2 (fun k m l => (m = 0) ∨ (0 ≤ l ∧ l ≤ 259)) ov_rowsMany ov_rowsFirst 0 12 → qp2 (fun k m l => (m = 0) ∨ (0 ≤ l ∧ l ≤ 259)) ov_rowsMany ov_rowsFirst 0 (ov_thrown.toInt + 12) → qp2 (fun k m l => (m = 0) ∨ (0 ≤ l ∧ l ≤ 259)) ov_rowsMany ov_rowsFirst ov_thrown.toInt 12 → qp2 (fun k m l => (m = 0) ∨ (0 ≤ l ∧ l ≤ 259)) ov_rowsMany ov_rowsFirst ov_thrown.toInt (ov_thrown.toInt + 12) → qp2 (fun k m l => (m = 0) ∨ (0 ≤ l ∧ l ≤ 259)) ov_rowMany ov_rowLast 0 12 → qp2 (fun k m l => (m = 0) ∨ (0 ≤ l ∧ l ≤ 259)) ov_rowMany ov_rowLast 0 (ov_thrown.toInt + 12) → qp2 (fun k m l => (m = 0) ∨ (0 ≤ l ∧ l ≤ 259)) ov_rowMany ov_rowLast ov_thrown.toInt 12 → qp2 (fun k m l => (m = 0) ∨ (0 ≤ l ∧ l ≤ 259)) ov_rowMany ov_rowLast ov_thrown.toInt (ov_thrown.toInt + 12) → qp2 (fun k m l => (m = 0) ∨ (0 ≤ l ∧ l ≤ 259)) ov_rowsMany ov_rowsLast 0 12 → qp2 (fun k m l => (m = 0) ∨ (0 ≤ l ∧ l ≤ 259)) ov_rowsMany ov_rowsLast 0 (ov_thrown.toInt + 12) → qp2 (fun k m l => (m = 0) ∨ (0 ≤ l ∧ l ≤ 259)) ov_rowsMany ov_rowsLast ov_thrown.toInt 12 → qp2 (fun k m l => (m = 0) ∨ (0 ≤ l ∧ l ≤ 259)) ov_rowsMany ov_rowsLast ov_thrown.toInt (ov_thrown.toInt + 12) → rp (fun k v => -1 ≤ v ∧ v ≤ 259) ov_rowFirst 0 12 → rp (fun k v => -1 ≤ v ∧ v ≤ 259) ov_rowFirst 0 (ov_thrown.toInt + 12) → rp (fun k v => -1 ≤ v ∧ v ≤ 259) ov_rowFirst ov_thrown.toInt 12 → rp (fun k v => -1 ≤ v ∧ v ≤ 259) ov_rowFirst ov_thrown.toInt (ov_thrown.toInt + 12) → rp (fun k v => -1 ≤ v ∧ v ≤ 259) ov_rowLast 0 12 → rp (fun k v => -1 ≤ v ∧ v ≤ 259) ov_rowLast 0 (ov_thrown.toInt + 12) → rp (fun k v => -1 ≤ v ∧ v ≤ 259) ov_rowLast ov_thrown.toInt 12 → rp (fun k v => -1 ≤ v ∧ v ≤ 259) ov_rowLast ov_thrown.toInt (ov_thrown.toInt + 12) → rp (fun k v => -1 ≤ v ∧ v ≤ 259) ov_rowsFirst 0 12 → rp (fun k v => -1 ≤ v ∧ v ≤ 259) ov_rowsFirst 0 (ov_thrown.toInt + 12) → rp (fun k v => -1 ≤ v ∧ v ≤ 259) ov_rowsFirst ov_thrown.toInt 12 → rp (fun k v => -1 ≤ v ∧ v ≤ 259) ov_rowsFirst ov_thrown.toInt (ov_thrown.toInt + 12) → rp (fun k v => -1 ≤ v ∧ v ≤ 259) ov_rowsLast 0 12 → rp (fun k v => -1 ≤ v ∧ v ≤ 259) ov_rowsLast 0 (ov_thrown.toInt + 12) → rp (fun k v => -1 ≤ v ∧ v ≤ 259) ov_rowsLast ov_thrown.toInt 12 → rp (fun k v => -1 ≤ v ∧ v ≤ 259) ov_rowsLast ov_thrown.toInt (ov_thrown.toInt + 12) → rp (fun k v => -1 ≤ v ∧ v ≤ 259) ov_rowsFirst ov_taped.toInt 12 → rp (fun k v => -1 ≤ v ∧ v ≤ 259) ov_rowsFirst ov_taped.toInt (ov_thrown.toInt + 12) → rp (fun k v => -1 ≤ v ∧ v ≤ 259) ov_rowsLast ov_taped.toInt 12 → rp (fun k v => -1 ≤ v ∧ v ≤ 259) ov_rowsLast ov_taped.toInt (ov_thrown.toInt + 12) → qp2 (fun k m l => (m = 0) ∨ (0 ≤ l ∧ l ≤ 259)) ov_rowsMany ov_rowsFirst ov_taped.toInt 12 → qp2 (fun k m l => (m = 0) ∨ (0 ≤ l ∧ l ≤ 259)) ov_rowsMany ov_rowsFirst ov_taped.toInt (ov_thrown.toInt + 12) → qp2 (fun k m l => (m = 0) ∨ (0 ≤ l ∧ l ≤ 259)) ov_rowsMany ov_rowsLast ov_taped.toInt 12 → qp2 (fun k m l => (m = 0) ∨ (0 ≤ l ∧ l ≤ 259)) ov_rowsMany ov_rowsLast ov_taped.toInt (ov_thrown.toInt + 12) → rp (fun k v => -1 ≤ v ∧ v ≤ 259) ov_rowFirst ov_taped.toInt 12 → rp (fun k v => -1 ≤ v ∧ v ≤ 259) ov_rowFirst ov_taped.toInt (ov_thrown.toInt + 12) → rp (fun k v => -1 ≤ v ∧ v ≤ 259) ov_rowLast ov_taped.toInt 12 → rp (fun k v => -1 ≤ v ∧ v ≤ 259) ov_rowLast ov_taped.toInt (ov_thrown.toInt + 12) → qp2 (fun k m l => (m = 0) ∨ (0 ≤ l ∧ l ≤ 259)) ov_rowMany ov_rowFirst ov_taped.toInt 12 → qp2 (fun k m l => (m = 0) ∨ (0 ≤ l ∧ l ≤ 259)) ov_rowMany ov_rowFirst ov_taped.toInt (ov_thrown.toInt + 12) → qp2 (fun k m l => (m = 0) ∨ (0 ≤ l ∧ l ≤ 259)) ov_rowMany ov_rowLast ov_taped.toInt 12 → qp2 (fun k m l => (m = 0) ∨ (0 ≤ l ∧ l ≤ 259)) ov_rowMany ov_rowLast ov_taped.toInt (ov_thrown.toInt + 12) → (zAll ov_isThere ov_many ov_captures ov_sort ov_value ov_least ov_most ov_holder ov_parts ov_end ov_firstPart ov_partBegin ov_partEnd ov_size ov_positions) → (zGo ov_isGoing ov_isThere v_goSlot.toInt) → Q r ov_thrown ov_taped ov_faultPlace ov_newNodes ov_newParts ov_fault ov_faultAt ov_at ov_items ov_newCaptures ov_depth ov_memberValue ov_memberEnd ov_loopLeast ov_loopMost ov_isGoing ov_isThere ov_many ov_captures ov_nameOf ov_sort ov_value ov_least ov_most ov_holder ov_parts ov_end ov_size ov_positions ov_firstPart ov_mayEmpty ov_inCase ov_partBegin ov_partEnd ov_newSort ov_newValue ov_newLeast ov_newMost ov_newFirst ov_newNext ov_newMany ov_newPart ov_newBegin ov_newEnd ov_newNames ov_groupSort ov_groupValue ov_rowFirst ov_rowLast ov_rowMany ov_rowsFirst ov_rowsLast ov_rowsMany ov_waiting ov_waitingHolder) : w_X12_pattern p1 v_taped v_faultPlace v_newNodes v_newParts v_fault v_faultAt v_at v_items v_newCaptures v_depth v_memberValue v_memberEnd v_loopLeast v_loopMost v_isGoing v_goSlot v_tape v_isThere v_many v_captures v_nameOf v_sort v_value v_least v_most v_holder v_parts v_end v_size v_positions v_firstPart v_mayEmpty v_inCase v_partBegin v_partEnd v_newSort v_newValue v_newLeast v_newMost v_newFirst v_newNext v_newMany v_newPart v_newBegin v_newEnd v_newNames v_groupSort v_groupValue v_rowFirst v_rowLast v_rowMany v_rowsFirst v_rowsLast v_rowsMany v_waiting v_waitingHolder Q := by
  have q_t : (bz true).toInt = 1 := rfl
  have q_f : (bz false).toInt = 0 := rfl
  have q_m2 : ((-2) : Int32).toInt = (-2) := rfl
  have q_m1 : ((-1) : Int32).toInt = (-1) := rfl
  have q_0 : (0 : Int32).toInt = 0 := rfl
  have q_1 : (1 : Int32).toInt = 1 := rfl
  have q_5 : (5 : Int32).toInt = 5 := rfl
  unfold w_X12_pattern
  refine ok_X12_in  (fun r8 f1 f2 f3 f4 f5 f6 => ?_)
  refine ⟨fun c11 => ?_, fun c11 => ?_⟩
  · have f7 : r8.toInt ≠ 0 := i_ne (a := r8.toInt) (b := 0) rfl rfl c11
    refine ok_X12_readAll (by omega) (by omega) (rp_mono b0 (by omega) (by omega)) (qp2_mono b1 (by omega) (by omega)) (qp2_mono b2 (by omega) (by omega)) (qp2_mono b3 (by omega) (by omega)) (qp2_mono b4 (by omega) (by omega)) (rp_mono b5 (by omega) (by omega)) (rp_mono b6 (by omega) (by omega)) (rp_mono b7 (by omega) (by omega)) (rp_mono b8 (by omega) (by omega)) (fun r18 r18_0 r18_1 r18_2 r18_3 r18_4 r18_5 r18_6 r18_7 r18_8 r18_9 r18_10 r18_11 r18_12 r18_13 r18_14 r18_15 r18_16 r18_17 r18_18 r18_19 r18_20 r18_21 r18_22 r18_23 r18_24 r18_25 r18_26 r18_27 r18_28 r18_29 r18_30 f8 f9 f10 f11 f12 f13 f14 f15 f16 f17 f18 f19 f20 f21 f22 f23 f24 f25 f26 f27 f28 f29 f30 f31 f32 f33 f34 f35 f36 f37 f38 f39 f40 f41 f42 f43 f44 f45 f46 f47 f48 h49 h50 h51 h52 h53 h54 h55 h56 h57 h58 h59 h60 h61 h62 h63 h64 h65 h66 h67 h68 h69 h70 h71 h72 h73 h74 h75 h76 h77 h78 h79 h80 h81 h82 h83 h84 h85 h86 h87 h88 h89 h90 h91 h92 h93 h94 h95 h96 h97 h98 h99 h100 h101 h102 h103 h104 h105 h106 h107 h108 h109 h110 h111 h112 u18_0 => ?_)
    have j_43 : ∀ (s0_43 : Int32), ((s0_43.toInt + 1 = 0 ∧ r18_2.toInt ≤ 0) ∨ (s0_43.toInt = r18_3.toInt ∧ 1 ≤ r18_2.toInt)) → w_X12_pattern_43 p1 v_goSlot Q s0_43 r18 0 0 v_faultPlace r18_0 r18_1 r18_2 r18_3 r18_4 r18_5 r18_6 r18_7 r18_8 r18_9 r18_10 r18_11 v_isGoing v_isThere v_many v_captures v_nameOf v_sort v_value v_least v_most v_holder v_parts v_end v_size v_positions v_firstPart v_mayEmpty v_inCase v_partBegin v_partEnd r18_12 r18_13 r18_14 r18_15 r18_16 r18_17 r18_18 r18_19 r18_20 r18_21 r18_22 r18_23 r18_24 r18_25 r18_26 r18_27 r18_28 r18_29 r18_30 v_waiting v_waitingHolder := by
      intro s0_43 f113
      unfold w_X12_pattern_43
      refine ⟨fun c50 => ?_, fun c50 => ?_⟩
      · have f114 : r18_2.toInt ≤ 0 := i_le (a := r18_2.toInt) (b := 0) rfl rfl c50
        have hRd := zRd_ok u18_0 (by omega)
        have hn1 : 1 ≤ r18_0.toInt := by
          have h1 := hRd.1.1; have h2 := hRd.1.2.2.1; omega
        have f115 : 1 ≤ r18_0.toInt := hn1
        refine ok_X12_keepPattern (v_newNodes := r18_0) (by omega) (by omega) (by omega) (by omega) (by omega) (by omega) (by omega) (by omega) (by exact hRd) (by exact u0) (fun r64_0 r64_1 r64_2 r64_3 r64_4 r64_5 r64_6 r64_7 r64_8 r64_9 r64_10 r64_11 r64_12 r64_13 r64_14 r64_15 r64_16 r64_17 r64_18 r64_19 u64_0 u64_1 => ?_)
        have f116 : (0 ≤ (bz v_isGoing).toInt ∧ (bz v_isGoing).toInt ≤ 1) := i_bzr v_isGoing
        have j_88 : ∀ (s0_88 : Int32), s0_88.toInt ≤ (bz v_isGoing).toInt → ((s0_88.toInt = 1) ∨ (s0_88.toInt = 0)) → (s0_88.toInt = 1 → (v_isGoing = true ∧ v_goSlot.toInt ≠ p1.toInt)) → w_X12_pattern_88 p1 Q s0_88 0 0 s0_43 r18_0 r18_1 r18_2 r18_3 r18_4 r18_5 r18_6 r18_7 r18_8 r18_9 r18_10 r18_11 v_isGoing r64_0 r64_1 r64_2 r64_3 r64_4 r64_5 r64_6 r64_7 r64_8 r64_9 r64_10 r64_11 r64_12 r64_13 r64_14 r64_15 r64_16 r64_17 r18_12 r18_13 r18_14 r18_15 r18_16 r18_17 r18_18 r18_19 r18_20 r18_21 r18_22 r18_23 r18_24 r18_25 r18_26 r18_27 r18_28 r18_29 r18_30 r64_18 r64_19 := by
          intro s0_88 f117 f118 u88_0
          unfold w_X12_pattern_88
          refine ⟨i_01 (by omega) (by omega), ?_⟩
          intro b88 eb88
          have f119 : (bz b88).toInt = s0_88.toInt := by rw [← eb88]
          refine ⟨i_in (by omega) (by omega), ?_⟩
          intro x96 ex96
          exact hq x96 0 0 s0_43 r18_0 r18_1 r18_2 r18_3 r18_4 r18_5 r18_6 r18_7 r18_8 r18_9 r18_10 r18_11 b88 r64_0 r64_1 r64_2 r64_3 r64_4 r64_5 r64_6 r64_7 r64_8 r64_9 r64_10 r64_11 r64_12 r64_13 r64_14 r64_15 r64_16 r64_17 r18_12 r18_13 r18_14 r18_15 r18_16 r18_17 r18_18 r18_19 r18_20 r18_21 r18_22 r18_23 r18_24 r18_25 r18_26 r18_27 r18_28 r18_29 r18_30 r64_18 r64_19 (by omega) (by omega) (by omega) (by omega) (qp2_mono h97 (by omega) (by omega)) (qp2_mono h97 (by omega) (by omega)) (qp2_mono h97 (by omega) (by omega)) (qp2_mono h97 (by omega) (by omega)) (qp2_mono h65 (by omega) (by omega)) (qp2_mono h65 (by omega) (by omega)) (qp2_mono h65 (by omega) (by omega)) (qp2_mono h65 (by omega) (by omega)) (qp2_mono h105 (by omega) (by omega)) (qp2_mono h105 (by omega) (by omega)) (qp2_mono h105 (by omega) (by omega)) (qp2_mono h105 (by omega) (by omega)) (qp2_mono h73 (by omega) (by omega)) (qp2_mono h73 (by omega) (by omega)) (qp2_mono h73 (by omega) (by omega)) (qp2_mono h73 (by omega) (by omega)) (rp_mono h81 (by omega) (by omega)) (rp_mono h81 (by omega) (by omega)) (rp_mono h81 (by omega) (by omega)) (rp_mono h81 (by omega) (by omega)) (rp_mono h89 (by omega) (by omega)) (rp_mono h89 (by omega) (by omega)) (rp_mono h89 (by omega) (by omega)) (rp_mono h89 (by omega) (by omega)) (rp_mono h49 (by omega) (by omega)) (rp_mono h49 (by omega) (by omega)) (rp_mono h49 (by omega) (by omega)) (rp_mono h49 (by omega) (by omega)) (rp_mono h57 (by omega) (by omega)) (rp_mono h57 (by omega) (by omega)) (rp_mono h57 (by omega) (by omega)) (rp_mono h57 (by omega) (by omega)) (rp_mono h49 (by omega) (by omega)) (rp_mono h49 (by omega) (by omega)) (rp_mono h57 (by omega) (by omega)) (rp_mono h57 (by omega) (by omega)) (qp2_mono h65 (by omega) (by omega)) (qp2_mono h65 (by omega) (by omega)) (qp2_mono h73 (by omega) (by omega)) (qp2_mono h73 (by omega) (by omega)) (rp_mono h81 (by omega) (by omega)) (rp_mono h81 (by omega) (by omega)) (rp_mono h89 (by omega) (by omega)) (rp_mono h89 (by omega) (by omega)) (qp2_mono h97 (by omega) (by omega)) (qp2_mono h97 (by omega) (by omega)) (qp2_mono h105 (by omega) (by omega)) (qp2_mono h105 (by omega) (by omega)) (by assumption) (by exact zGo_put u1 u64_1 (by omega) (fun z => u88_0 (zbz2 z (by assumption))))
        have j_87 : (((bz v_isGoing).toInt = 0) ∨ (v_goSlot.toInt = p1.toInt)) → (True) → w_X12_pattern_87 p1 Q 0 0 s0_43 r18_0 r18_1 r18_2 r18_3 r18_4 r18_5 r18_6 r18_7 r18_8 r18_9 r18_10 r18_11 v_isGoing r64_0 r64_1 r64_2 r64_3 r64_4 r64_5 r64_6 r64_7 r64_8 r64_9 r64_10 r64_11 r64_12 r64_13 r64_14 r64_15 r64_16 r64_17 r18_12 r18_13 r18_14 r18_15 r18_16 r18_17 r18_18 r18_19 r18_20 r18_21 r18_22 r18_23 r18_24 r18_25 r18_26 r18_27 r18_28 r18_29 r18_30 r64_18 r64_19 := by
          intro f120 u87_0
          unfold w_X12_pattern_87
          exact j_88 0 (by omega) (by omega) (by first | exact fun _ => ⟨zbz1 (by omega), by omega⟩ | exact fun z => absurd z (by decide))
        refine ⟨fun c72 => ?_, fun c72 => ?_⟩
        · have f121 : (bz v_isGoing).toInt = 0 := i_eq (a := (bz v_isGoing).toInt) (b := 0) rfl rfl c72
          exact j_87  (by omega) (by trivial)
        · have f122 : (bz v_isGoing).toInt ≠ 0 := i_ne (a := (bz v_isGoing).toInt) (b := 0) rfl rfl c72
          refine ⟨fun c80 => ?_, fun c80 => ?_⟩
          · have f123 : v_goSlot.toInt = p1.toInt := i_eq (a := v_goSlot.toInt) (b := p1.toInt) rfl rfl c80
            exact j_87  (by omega) (by trivial)
          · have f124 : v_goSlot.toInt ≠ p1.toInt := i_ne (a := v_goSlot.toInt) (b := p1.toInt) rfl rfl c80
            exact j_88 1 (by omega) (by omega) (by first | exact fun _ => ⟨zbz1 (by omega), by omega⟩ | exact fun z => absurd z (by decide))
      · have f125 : 0 < r18_2.toInt := i_nle (a := r18_2.toInt) (b := 0) rfl rfl c50
        intro x59 ex59
        exact hq x59 0 0 s0_43 r18_0 r18_1 r18_2 r18_3 r18_4 r18_5 r18_6 r18_7 r18_8 r18_9 r18_10 r18_11 v_isGoing v_isThere v_many v_captures v_nameOf v_sort v_value v_least v_most v_holder v_parts v_end v_size v_positions v_firstPart v_mayEmpty v_inCase v_partBegin v_partEnd r18_12 r18_13 r18_14 r18_15 r18_16 r18_17 r18_18 r18_19 r18_20 r18_21 r18_22 r18_23 r18_24 r18_25 r18_26 r18_27 r18_28 r18_29 r18_30 v_waiting v_waitingHolder (by omega) (by omega) (by omega) (by omega) (qp2_mono h97 (by omega) (by omega)) (qp2_mono h97 (by omega) (by omega)) (qp2_mono h97 (by omega) (by omega)) (qp2_mono h97 (by omega) (by omega)) (qp2_mono h65 (by omega) (by omega)) (qp2_mono h65 (by omega) (by omega)) (qp2_mono h65 (by omega) (by omega)) (qp2_mono h65 (by omega) (by omega)) (qp2_mono h105 (by omega) (by omega)) (qp2_mono h105 (by omega) (by omega)) (qp2_mono h105 (by omega) (by omega)) (qp2_mono h105 (by omega) (by omega)) (qp2_mono h73 (by omega) (by omega)) (qp2_mono h73 (by omega) (by omega)) (qp2_mono h73 (by omega) (by omega)) (qp2_mono h73 (by omega) (by omega)) (rp_mono h81 (by omega) (by omega)) (rp_mono h81 (by omega) (by omega)) (rp_mono h81 (by omega) (by omega)) (rp_mono h81 (by omega) (by omega)) (rp_mono h89 (by omega) (by omega)) (rp_mono h89 (by omega) (by omega)) (rp_mono h89 (by omega) (by omega)) (rp_mono h89 (by omega) (by omega)) (rp_mono h49 (by omega) (by omega)) (rp_mono h49 (by omega) (by omega)) (rp_mono h49 (by omega) (by omega)) (rp_mono h49 (by omega) (by omega)) (rp_mono h57 (by omega) (by omega)) (rp_mono h57 (by omega) (by omega)) (rp_mono h57 (by omega) (by omega)) (rp_mono h57 (by omega) (by omega)) (rp_mono h49 (by omega) (by omega)) (rp_mono h49 (by omega) (by omega)) (rp_mono h57 (by omega) (by omega)) (rp_mono h57 (by omega) (by omega)) (qp2_mono h65 (by omega) (by omega)) (qp2_mono h65 (by omega) (by omega)) (qp2_mono h73 (by omega) (by omega)) (qp2_mono h73 (by omega) (by omega)) (rp_mono h81 (by omega) (by omega)) (rp_mono h81 (by omega) (by omega)) (rp_mono h89 (by omega) (by omega)) (rp_mono h89 (by omega) (by omega)) (qp2_mono h97 (by omega) (by omega)) (qp2_mono h97 (by omega) (by omega)) (qp2_mono h105 (by omega) (by omega)) (qp2_mono h105 (by omega) (by omega)) (by assumption) (by assumption)
    refine ⟨fun c32 => ?_, fun c32 => ?_⟩
    · have f126 : r18_2.toInt ≤ 0 := i_le (a := r18_2.toInt) (b := 0) rfl rfl c32
      exact j_43 (-1) (by omega)
    · have f127 : 0 < r18_2.toInt := i_nle (a := r18_2.toInt) (b := 0) rfl rfl c32
      exact j_43 r18_3 (by omega)
  · have f128 : r8.toInt = 0 := i_eq (a := r8.toInt) (b := 0) rfl rfl c11
    exact hq (-2) 0 v_taped v_faultPlace v_newNodes v_newParts v_fault v_faultAt v_at v_items v_newCaptures v_depth v_memberValue v_memberEnd v_loopLeast v_loopMost v_isGoing v_isThere v_many v_captures v_nameOf v_sort v_value v_least v_most v_holder v_parts v_end v_size v_positions v_firstPart v_mayEmpty v_inCase v_partBegin v_partEnd v_newSort v_newValue v_newLeast v_newMost v_newFirst v_newNext v_newMany v_newPart v_newBegin v_newEnd v_newNames v_groupSort v_groupValue v_rowFirst v_rowLast v_rowMany v_rowsFirst v_rowsLast v_rowsMany v_waiting v_waitingHolder (by omega) (by omega) (by omega) (by omega) (qp2_mono b1 (by omega) (by omega)) (qp2_mono b1 (by omega) (by omega)) (qp2_mono b1 (by omega) (by omega)) (qp2_mono b1 (by omega) (by omega)) (qp2_mono b2 (by omega) (by omega)) (qp2_mono b2 (by omega) (by omega)) (qp2_mono b2 (by omega) (by omega)) (qp2_mono b2 (by omega) (by omega)) (qp2_mono b3 (by omega) (by omega)) (qp2_mono b3 (by omega) (by omega)) (qp2_mono b3 (by omega) (by omega)) (qp2_mono b3 (by omega) (by omega)) (qp2_mono b4 (by omega) (by omega)) (qp2_mono b4 (by omega) (by omega)) (qp2_mono b4 (by omega) (by omega)) (qp2_mono b4 (by omega) (by omega)) (rp_mono b5 (by omega) (by omega)) (rp_mono b5 (by omega) (by omega)) (rp_mono b5 (by omega) (by omega)) (rp_mono b5 (by omega) (by omega)) (rp_mono b6 (by omega) (by omega)) (rp_mono b6 (by omega) (by omega)) (rp_mono b6 (by omega) (by omega)) (rp_mono b6 (by omega) (by omega)) (rp_mono b7 (by omega) (by omega)) (rp_mono b7 (by omega) (by omega)) (rp_mono b7 (by omega) (by omega)) (rp_mono b7 (by omega) (by omega)) (rp_mono b8 (by omega) (by omega)) (rp_mono b8 (by omega) (by omega)) (rp_mono b8 (by omega) (by omega)) (rp_mono b8 (by omega) (by omega)) (rp_mono b7 (by omega) (by omega)) (rp_mono b7 (by omega) (by omega)) (rp_mono b8 (by omega) (by omega)) (rp_mono b8 (by omega) (by omega)) (qp2_mono b2 (by omega) (by omega)) (qp2_mono b2 (by omega) (by omega)) (qp2_mono b4 (by omega) (by omega)) (qp2_mono b4 (by omega) (by omega)) (rp_mono b5 (by omega) (by omega)) (rp_mono b5 (by omega) (by omega)) (rp_mono b6 (by omega) (by omega)) (rp_mono b6 (by omega) (by omega)) (qp2_mono b1 (by omega) (by omega)) (qp2_mono b1 (by omega) (by omega)) (qp2_mono b3 (by omega) (by omega)) (qp2_mono b3 (by omega) (by omega)) (by assumption) (by assumption)
