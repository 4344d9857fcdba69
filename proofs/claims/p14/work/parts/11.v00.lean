set_option maxHeartbeats 4000000 in
theorem ok_X12_isReplacing {p1 : Int32} {v_taped : Int32} {v_tape : Nat → Int32} {v_captures : Nat → Int32} {Q : Int32 → Prop} (a0 : 0 ≤ v_taped.toInt) (a1 : v_taped.toInt ≤ 200) (a2 : 0 ≤ p1.toInt) (a3 : p1.toInt ≤ 5) (b0 : rp (fun k v => 32 ≤ v ∧ v ≤ 126) v_tape 0 v_taped.toInt) (hq : ∀ (r : Int32), 0 ≤ r.toInt + 1 → 0 ≤ r.toInt → r.toInt ≤ 1 → r.toInt ≤ 2 → r.toInt ≤ 35 → r.toInt ≤ 36 → r.toInt ≤ 37 → r.toInt ≤ 47 → r.toInt ≤ 48 → r.toInt ≤ 49 → r.toInt ≤ p1.toInt + 1 → r.toInt ≤ v_taped.toInt + 1 → (r.toInt = 1 → zRq v_tape v_taped.toInt) → Q r) : w_X12_isReplacing p1 v_taped v_tape v_captures Q := by
  have q_t : (bz true).toInt = 1 := rfl
  have q_f : (bz false).toInt = 0 := rfl
  have q_0 : (0 : Int32).toInt = 0 := rfl
  have q_1 : (1 : Int32).toInt = 1 := rfl
  unfold w_X12_isReplacing
  have j_4 : ∀ n_4 : Nat, ∀ (l2_4 : Int32) (l3_4 : Int32), 0 ≤ l2_4.toInt → l2_4.toInt ≤ 1 → 0 ≤ l3_4.toInt → l3_4.toInt ≤ v_taped.toInt + 1 → (l2_4.toInt = 1 → zRh v_tape v_taped.toInt l3_4.toInt) → ((-1) * l3_4.toInt + 2147483648).toNat < n_4 → w_X12_isReplacing_4 p1 v_taped v_tape v_captures Q n_4 l2_4 l3_4 := by
    intro n_4
    induction n_4 with
    | zero =>
      intro l2_4 l3_4 f1 f2 f3 f4 u4_0 hm_4
      exfalso; omega
    | succ n_4 ih_4 =>
      intro l2_4 l3_4 f1 f2 f3 f4 u4_0 hm_4
      unfold w_X12_isReplacing_4
      unfold w_X12_isReplacing_4B
      have j_80 : ((v_taped.toInt ≤ l3_4.toInt) ∨ (l3_4.toInt + 1 ≤ v_taped.toInt ∧ l2_4.toInt = 0)) → (l2_4.toInt = 1 → zRq v_tape v_taped.toInt) → w_X12_isReplacing_80 Q l2_4 := by
        intro f5 u80_0
        unfold w_X12_isReplacing_80
        refine ⟨i_01 (by omega) (by omega), ?_⟩
        exact hq l2_4 (by omega) (by omega) (by omega) (by omega) (by omega) (by omega) (by omega) (by omega) (by omega) (by omega) (by omega) (by omega) (by exact u80_0)
      refine ⟨fun c9 => ?_, fun c9 => ?_⟩
      · have f6 : v_taped.toInt ≤ l3_4.toInt := i_le (a := v_taped.toInt) (b := l3_4.toInt) rfl rfl c9
        exact j_80  (by omega) (by first | exact fun z => zRh_e (u4_0 z) (by omega) | exact fun z => absurd z (by omega))
      · have f7 : l3_4.toInt < v_taped.toInt := i_nle (a := v_taped.toInt) (b := l3_4.toInt) rfl rfl c9
        refine ⟨fun c13 => ?_, fun c13 => ?_⟩
        · have f8 : l2_4.toInt = 0 := i_eq (a := l2_4.toInt) (b := 0) rfl rfl c13
          exact j_80  (by omega) (by first | exact fun z => zRh_e (u4_0 z) (by omega) | exact fun z => absurd z (by omega))
        · have f9 : l2_4.toInt ≠ 0 := i_ne (a := l2_4.toInt) (b := 0) rfl rfl c13
          refine ⟨i_in (by omega) (by omega), ?_⟩
          intro x21 ex21
          have f10 : 32 ≤ x21.toInt ∧ x21.toInt ≤ 126 := by have h9 := rp_get (P := (fun k v => 32 ≤ v ∧ v ≤ 126)) (a := l3_4.toInt) b0 ex21 rfl (by omega) (by omega) (by omega); omega
          have j_74 : ∀ (l2_74 : Int32) (l3_74 : Int32), l2_4.toInt ≤ l2_74.toInt + 1 → l2_74.toInt ≤ l2_4.toInt → l3_4.toInt ≤ l3_74.toInt → l3_74.toInt ≤ l3_4.toInt + 1 → ((l2_74.toInt = l2_4.toInt ∧ l3_74.toInt = l3_4.toInt) ∨ (x21.toInt = 36 ∧ l3_74.toInt = l3_4.toInt + 1 ∧ 0 ≤ l2_74.toInt ∧ l2_74.toInt ≤ 1)) → (l2_74.toInt = 1 → zRh v_tape v_taped.toInt (l3_74.toInt + 1)) → w_X12_isReplacing_74 Q (w_X12_isReplacing_4 p1 v_taped v_tape v_captures Q n_4) l2_74 l3_74 := by
            intro l2_74 l3_74 f11 f12 f13 f14 f15 u74_0
            unfold w_X12_isReplacing_74
            intro x74 ex74
            have f16 : x74.toInt = l3_74.toInt + 1 := i_add (a := l3_74.toInt) (b := 1) ex74 rfl rfl (by omega) (by omega)
            exact ih_4 l2_74 x74  (by omega) (by omega) (by omega) (by omega) (by first | exact fun _ => zRh_0 rfl | exact fun z => (by rw [show x74.toInt = l3_74.toInt + 1 by omega]; exact u74_0 z)) (by have h8_0 := i_rng l3_4; have h8_1 := i_rng x74; omega)
          refine ⟨fun c24 => ?_, fun c24 => ?_⟩
          · have f17 : x21.toInt ≠ 36 := i_ne (a := x21.toInt) (b := 36) rfl rfl c24
            exact j_74 l2_4 l3_4 (by omega) (by omega) (by omega) (by omega) (by omega) (by first | exact fun z => zRh_1 (u4_0 (by omega)) ex21 (by omega) (by omega) | exact fun z => zRh_2 (u4_0 (by omega)) ex21 (by omega) (u73_0 z) (by omega))
          · have f18 : x21.toInt = 36 := i_eq (a := x21.toInt) (b := 36) rfl rfl c24
            intro x27 ex27
            have f19 : x27.toInt = l3_4.toInt + 1 := i_add (a := l3_4.toInt) (b := 1) ex27 rfl rfl (by omega) (by omega)
            have j_73 : ∀ (s0_73 : Int32), 0 ≤ s0_73.toInt → s0_73.toInt ≤ 1 → ((s0_73.toInt = 0) ∨ (x27.toInt + 1 ≤ v_taped.toInt)) → ((s0_73.toInt = 1 ∧ x27.toInt + 1 ≤ v_taped.toInt) ∨ (s0_73.toInt = 0)) → (s0_73.toInt = 1 → l3_4.toInt + 1 < v_taped.toInt) → w_X12_isReplacing_73 Q (w_X12_isReplacing_4 p1 v_taped v_tape v_captures Q n_4) s0_73 x27 := by
              intro s0_73 f20 f21 f22 f23 u73_0
              unfold w_X12_isReplacing_73
              exact j_74 s0_73 x27 (by omega) (by omega) (by omega) (by omega) (by omega) (by first | exact fun z => zRh_1 (u4_0 (by omega)) ex21 (by omega) (by omega) | exact fun z => zRh_2 (u4_0 (by omega)) ex21 (by omega) (u73_0 z) (by omega))
            have j_72 : ((v_taped.toInt ≤ x27.toInt) ∨ (x27.toInt + 1 ≤ v_taped.toInt)) → (True) → w_X12_isReplacing_72 Q (w_X12_isReplacing_4 p1 v_taped v_tape v_captures Q n_4) x27 := by
              intro f24 u72_0
              unfold w_X12_isReplacing_72
              exact j_73 0 (by omega) (by omega) (by omega) (by omega) (by first | exact fun _ => (by omega) | exact fun z => absurd z (by decide))
            refine ⟨fun c35 => ?_, fun c35 => ?_⟩
            · have f25 : v_taped.toInt ≤ x27.toInt := i_le (a := v_taped.toInt) (b := x27.toInt) rfl rfl c35
              exact j_72  (by omega) (by trivial)
            · have f26 : x27.toInt < v_taped.toInt := i_nle (a := v_taped.toInt) (b := x27.toInt) rfl rfl c35
              refine ⟨i_in (by omega) (by omega), ?_⟩
              intro x43 ex43
              have f27 : 32 ≤ x43.toInt ∧ x43.toInt ≤ 126 := by have h9 := rp_get (P := (fun k v => 32 ≤ v ∧ v ≤ 126)) (a := x27.toInt) b0 ex43 rfl (by omega) (by omega) (by omega); omega
              refine ok_X12_isDigit  (fun r44 f28 f29 f30 f31 f32 f33 => ?_)
              have j_68 : ((r44.toInt = 0) ∨ (32 ≤ x43.toInt ∧ x43.toInt ≤ 126)) → (True) → w_X12_isReplacing_68 Q (w_X12_isReplacing_4 p1 v_taped v_tape v_captures Q n_4) x27 := by
                intro f34 u68_0
                unfold w_X12_isReplacing_68
                exact j_73 1 (by omega) (by omega) (by omega) (by omega) (by first | exact fun _ => (by omega) | exact fun z => absurd z (by decide))
              refine ⟨fun c47 => ?_, fun c47 => ?_⟩
              · have f35 : r44.toInt = 0 := i_eq (a := r44.toInt) (b := 0) rfl rfl c47
                exact j_68  (by omega) (by trivial)
              · have f36 : r44.toInt ≠ 0 := i_ne (a := r44.toInt) (b := 0) rfl rfl c47
                refine ⟨i_in (by omega) (by omega), ?_⟩
                intro x55 ex55
                have f37 : x55.toInt = x43.toInt := congrArg Int32.toInt (ex55.trans ex43.symm)
                have f38 : 32 ≤ x55.toInt ∧ x55.toInt ≤ 126 := by have h9 := rp_get (P := (fun k v => 32 ≤ v ∧ v ≤ 126)) (a := x27.toInt) b0 ex55 rfl (by omega) (by omega) (by omega); omega
                intro x58 ex58
                have f39 : x58.toInt = x55.toInt - 48 := i_sub (a := x55.toInt) (b := 48) ex58 rfl rfl (by omega) (by omega)
                refine ⟨i_in (by omega) (by omega), ?_⟩
                intro x64 ex64
                refine ⟨fun c65 => ?_, fun c65 => ?_⟩
                · have f40 : x64.toInt < x58.toInt := i_lt (a := x64.toInt) (b := x58.toInt) rfl rfl c65
                  exact j_72  (by omega) (by trivial)
                · have f41 : x58.toInt ≤ x64.toInt := i_nlt (a := x64.toInt) (b := x58.toInt) rfl rfl c65
                  exact j_68  (by omega) (by trivial)
  exact ⟨(2147483648 : Int).toNat + 1, j_4   ((2147483648 : Int).toNat + 1) 1 0  (by omega) (by omega) (by omega) (by omega) (by first | exact fun _ => zRh_0 rfl | exact fun z => (by rw [show (0 : Int32).toInt = l3_74.toInt + 1 by omega]; exact u74_0 z)) (by omega)⟩
set_option maxHeartbeats 4000000 in
theorem ok_X12_whole {p1 : Int32} {p2 : Int32} {p3 : Int32} {v_finding : Int32} {v_acts : Int32} {v_labels : Int32} {v_tasks : Int32} {v_trail : Int32} {v_choices : Int32} {v_now : Int32} {v_spot : Int32} {v_slotNow : Int32} {v_textNow : Int32} {v_longNow : Int32} {v_steps : Int32} {v_limit : Int32} {v_isOver : Bool} {v_stamp : Int32} {v_isGoing : Bool} {v_hasSpan : Bool} {v_spanCaptures : Int32} {v_isThere : Nat → Bool} {v_many : Nat → Int32} {v_captures : Nat → Int32} {v_sort : Nat → Int32} {v_value : Nat → Int32} {v_least : Nat → Int32} {v_most : Nat → Int32} {v_parts : Nat → Int32} {v_end : Nat → Int32} {v_size : Nat → Int32} {v_positions : Nat → Int32} {v_firstPart : Nat → Int32} {v_mayEmpty : Nat → Bool} {v_inCase : Nat → Bool} {v_partBegin : Nat → Int32} {v_partEnd : Nat → Int32} {v_isSubject : Nat → Bool} {v_long0 : Nat → Int32} {v_signs : Nat → Int32} {v_act : Nat → Int32} {v_actA : Nat → Int32} {v_actB : Nat → Int32} {v_labelAt : Nat → Int32} {v_task : Nat → Int32} {v_taskA : Nat → Int32} {v_taskB : Nat → Int32} {v_held : Nat → Int32} {v_reg : Nat → Int32} {v_trailOf : Nat → Int32} {v_trailOld : Nat → Int32} {v_choiceSort : Nat → Int32} {v_choiceAct : Nat → Int32} {v_choicePlace : Nat → Int32} {v_choiceTrail : Nat → Int32} {v_seen : Nat → Int32} {v_found : Nat → Int32} {v_span : Nat → Int32} {v_holder : Nat → Int32} {v_goSlot : Int32} {v_goSubject : Int32} {v_goFrom : Int32} {v_goSteps : Int32} {Q : Int32 → Int32 → Int32 → Int32 → Int32 → Int32 → Int32 → Int32 → Int32 → Int32 → Int32 → Int32 → Int32 → Int32 → Int32 → Bool → Int32 → Bool → Bool → Int32 → (Nat → Int32) → (Nat → Int32) → (Nat → Int32) → (Nat → Int32) → (Nat → Int32) → (Nat → Int32) → (Nat → Int32) → (Nat → Int32) → (Nat → Int32) → (Nat → Int32) → (Nat → Int32) → (Nat → Int32) → (Nat → Int32) → (Nat → Int32) → (Nat → Int32) → (Nat → Int32) → (Nat → Int32) → (Nat → Int32) → Prop} (a0 : 0 ≤ v_spanCaptures.toInt) (a1 : v_spanCaptures.toInt ≤ 9) (b0 : rp (fun k v => 0 ≤ v ∧ v ≤ 100) v_long0 0 4) (b1 : rp (fun k v => 0 ≤ v ∧ v ≤ 65535) v_signs 0 400) (b2 : rp (fun k v => 0 ≤ v ∧ v ≤ 1129) v_trailOf 0 v_trail.toInt) (u0 : zAll v_isThere v_many v_captures v_sort v_value v_least v_most v_holder v_parts v_end v_firstPart v_partBegin v_partEnd v_size v_positions) (u1 : zGi v_isGoing v_isThere v_long0 v_goSlot.toInt v_goSubject.toInt v_goFrom.toInt v_goSteps.toInt) (hq : ∀ (r : Int32) (ov_thrown : Int32) (ov_finding : Int32) (ov_acts : Int32) (ov_labels : Int32) (ov_tasks : Int32) (ov_trail : Int32) (ov_choices : Int32) (ov_now : Int32) (ov_spot : Int32) (ov_slotNow : Int32) (ov_textNow : Int32) (ov_longNow : Int32) (ov_steps : Int32) (ov_limit : Int32) (ov_isOver : Bool) (ov_stamp : Int32) (ov_isGoing : Bool) (ov_hasSpan : Bool) (ov_spanCaptures : Int32) (ov_act : Nat → Int32) (ov_actA : Nat → Int32) (ov_actB : Nat → Int32) (ov_labelAt : Nat → Int32) (ov_task : Nat → Int32) (ov_taskA : Nat → Int32) (ov_taskB : Nat → Int32) (ov_held : Nat → Int32) (ov_reg : Nat → Int32) (ov_trailOf : Nat → Int32) (ov_trailOld : Nat → Int32) (ov_choiceSort : Nat → Int32) (ov_choiceAct : Nat → Int32) (ov_choicePlace : Nat → Int32) (ov_choiceTrail : Nat → Int32) (ov_seen : Nat → Int32) (ov_found : Nat → Int32) (ov_span : Nat → Int32), ov_thrown.toInt = 0 → 0 ≤ r.toInt + 8 → r.toInt ≤ 1 → 0 ≤ ov_spanCaptures.toInt → ov_spanCaptures.toInt ≤ 9 → rp (fun k v => 0 ≤ v ∧ v ≤ 1129) ov_trailOf 0 ov_trail.toInt → rp (fun k v => 0 ≤ v ∧ v ≤ 1129) ov_trailOf ov_thrown.toInt ov_trail.toInt → rp (fun k v => 0 ≤ v ∧ v ≤ 1129) ov_trailOf (r.toInt + 8) ov_trail.toInt → (zGi ov_isGoing v_isThere v_long0 v_goSlot.toInt v_goSubject.toInt v_goFrom.toInt v_goSteps.toInt) → Q r ov_thrown ov_finding ov_acts ov_labels ov_tasks ov_trail ov_choices ov_now ov_spot ov_slotNow ov_textNow ov_longNow ov_steps ov_limit ov_isOver ov_stamp ov_isGoing ov_hasSpan ov_spanCaptures ov_act ov_actA ov_actB ov_labelAt ov_task ov_taskA ov_taskB ov_held ov_reg ov_trailOf ov_trailOld ov_choiceSort ov_choiceAct ov_choicePlace ov_choiceTrail ov_seen ov_found ov_span) : w_X12_whole p1 p2 p3 v_finding v_acts v_labels v_tasks v_trail v_choices v_now v_spot v_slotNow v_textNow v_longNow v_steps v_limit v_isOver v_stamp v_isGoing v_hasSpan v_spanCaptures v_isThere v_many v_captures v_sort v_value v_least v_most v_parts v_end v_size v_positions v_firstPart v_mayEmpty v_inCase v_partBegin v_partEnd v_isSubject v_long0 v_signs v_act v_actA v_actB v_labelAt v_task v_taskA v_taskB v_held v_reg v_trailOf v_trailOld v_choiceSort v_choiceAct v_choicePlace v_choiceTrail v_seen v_found v_span Q := by
  have q_t : (bz true).toInt = 1 := rfl
  have q_f : (bz false).toInt = 0 := rfl
  have q_m8 : ((-8) : Int32).toInt = (-8) := rfl
  have q_m4 : ((-4) : Int32).toInt = (-4) := rfl
  have q_0 : (0 : Int32).toInt = 0 := rfl
  have q_1 : (1 : Int32).toInt = 1 := rfl
  have q_2 : (2 : Int32).toInt = 2 := rfl
  have q_3000 : (3000 : Int32).toInt = 3000 := rfl
  unfold w_X12_whole
  refine ok_X12_wrongBoth  (fun r8 r8_0 f1 f2 f3 f4 f5 u8_0 => ?_)
  have j_34 : ∀ (s0_34 : Int32), 0 ≤ s0_34.toInt + 9 → s0_34.toInt ≤ 2 → ((s0_34.toInt ≠ 0) ∨ (0 ≤ p1.toInt)) → ((s0_34.toInt ≠ 0) ∨ (p1.toInt ≤ 5)) → ((s0_34.toInt ≠ 0) ∨ (0 ≤ p2.toInt)) → ((s0_34.toInt ≠ 0) ∨ (p2.toInt ≤ 3)) → ((s0_34.toInt ≠ 0) ∨ (0 ≤ p3.toInt)) → ((s0_34.toInt ≠ 0) ∨ (p3.toInt ≤ 2)) → ((s0_34.toInt + 4 = 0 ∧ r8.toInt = 0) ∨ (s0_34.toInt = r8.toInt)) → (s0_34.toInt = 0 → r8.toInt = 0) → w_X12_whole_34 p1 p2 p3 v_many v_captures v_sort v_value v_least v_most v_parts v_end v_size v_positions v_firstPart v_mayEmpty v_inCase v_partBegin v_partEnd v_long0 v_signs Q s0_34 0 r8_0 v_acts v_labels v_tasks v_trail v_choices v_now v_spot v_slotNow v_textNow v_longNow v_steps v_limit v_isOver v_stamp v_isGoing v_hasSpan v_spanCaptures v_act v_actA v_actB v_labelAt v_task v_taskA v_taskB v_held v_reg v_trailOf v_trailOld v_choiceSort v_choiceAct v_choicePlace v_choiceTrail v_seen v_found v_span := by
    intro s0_34 f6 f7 f8 f9 f10 f11 f12 f13 f14 u34_0
    unfold w_X12_whole_34
    have j_52 : ∀ (s0_52 : Int32), 0 ≤ s0_52.toInt + 9 → s0_52.toInt ≤ 2 → ((s0_52.toInt ≠ 0) ∨ (0 ≤ p1.toInt)) → ((s0_52.toInt ≠ 0) ∨ (p1.toInt ≤ 5)) → ((s0_52.toInt ≠ 0) ∨ (0 ≤ p2.toInt)) → ((s0_52.toInt ≠ 0) ∨ (p2.toInt ≤ 3)) → ((s0_52.toInt ≠ 0) ∨ (0 ≤ p3.toInt)) → ((s0_52.toInt ≠ 0) ∨ (p3.toInt ≤ 2)) → ((s0_52.toInt = s0_34.toInt) ∨ (s0_34.toInt = 0)) → 0 ≤ s0_52.toInt + 7 → s0_52.toInt ≤ 0 → (s0_52.toInt = 0 → (r8.toInt = 0 ∧ (1 ≤ p3.toInt → zKb v_sort (220 * p1.toInt) (zg v_many p1.toInt)) ∧ (1 ≤ p3.toInt → zg v_size (220 * p1.toInt) ≤ 200))) → w_X12_whole_52 p1 p2 p3 v_captures v_sort v_value v_least v_most v_parts v_end v_firstPart v_inCase v_partBegin v_partEnd v_long0 v_signs Q s0_52 0 r8_0 v_acts v_labels v_tasks v_trail v_choices v_now v_spot v_slotNow v_textNow v_longNow v_steps v_limit v_isOver v_stamp v_isGoing v_hasSpan v_spanCaptures v_act v_actA v_actB v_labelAt v_task v_taskA v_taskB v_held v_reg v_trailOf v_trailOld v_choiceSort v_choiceAct v_choicePlace v_choiceTrail v_seen v_found v_span := by
      intro s0_52 f15 f16 f17 f18 f19 f20 f21 f22 f23 f24 f25 u52_0
      unfold w_X12_whole_52
      refine ⟨fun c56 => ?_, fun c56 => ?_⟩
      · have f26 : s0_52.toInt = 0 := i_eq (a := s0_52.toInt) (b := 0) rfl rfl c56
        have h52 := u52_0 (by omega)
        have h8z := h52.1
        have hSM := zAll_s u0 (u8_0 (by omega)) (by omega) (by omega)
        have hS := hSM.1
        have hM := hSM.2
        have f27 : 1 ≤ (zg v_many p1.toInt : Int) := (zS_n hS).1
        have f28 : (zg v_many p1.toInt : Int) ≤ 220 := (zS_n hS).2
        have f29 : 0 ≤ (zg v_captures p1.toInt : Int) := (zS_c hS).1
        have f30 : (zg v_captures p1.toInt : Int) ≤ 9 := (zS_c hS).2
        have hCm := zCm (m := p3.toInt) hS hM h52.2.1 h52.2.2
        have j_78 : ∀ (s0_78 : Int32), 0 ≤ s0_78.toInt + 9 → s0_78.toInt ≤ 2 → ((s0_78.toInt = 0 ∧ p3.toInt ≤ 0) ∨ (s0_78.toInt = 1 ∧ 1 ≤ p3.toInt)) → ((zfi p3.toInt = 1 ∧ s0_78.toInt ≠ 0) ∨ (zfi p3.toInt = 0 ∧ s0_78.toInt = 0)) → w_X12_whole_78 p1 p2 p3 v_captures v_sort v_value v_least v_most v_parts v_end v_firstPart v_inCase v_partBegin v_partEnd v_long0 v_signs Q s0_78 p1 0 r8_0 v_acts v_labels v_tasks v_trail v_choices v_now v_spot v_slotNow v_textNow v_longNow v_steps v_limit v_isOver v_stamp false v_hasSpan v_spanCaptures v_act v_actA v_actB v_labelAt v_task v_taskA v_taskB v_held v_reg v_trailOf v_trailOld v_choiceSort v_choiceAct v_choicePlace v_choiceTrail v_seen v_found v_span := by
          intro s0_78 f31 f32 f33 u78_0
          unfold w_X12_whole_78
          have hf9 := u78_0
          refine ok_X12_compile (gZ := (zzz p3.toInt v_end v_size (220 * p1.toInt))) (gfi := (zfi p3.toInt)) (v_holder := v_holder) (v_parts := v_parts) (v_firstPart := v_firstPart) (v_partBegin := v_partBegin) (v_partEnd := v_partEnd) (v_acts := v_acts) (v_labels := v_labels) (v_tasks := v_tasks) (v_many := v_many) (v_captures := v_captures) (gP := (fun _ => 0)) (gE := 0) (by omega) (by omega) (by omega) (by omega) (by exact hS) (by exact hCm.1) (by exact hCm.2.1) (by exact hf9) (by exact hCm.2.2) (by exact fun z => absurd z (by decide)) (fun r78_0 r78_1 r78_2 r78_3 r78_4 r78_5 r78_6 r78_7 r78_8 r78_9 r78_10 f34 f35 f36 f37 f38 f39 f40 f41 u78_0 u78_1 => ?_)
          have hC9 := u78_0
          have j_95 : ∀ (s0_95 : Int32), 0 ≤ s0_95.toInt + 9 → s0_95.toInt ≤ 2 → ((s0_95.toInt = 0 ∧ p3.toInt ≤ 0) ∨ (s0_95.toInt = 1 ∧ 1 ≤ p3.toInt)) → ((zfi p3.toInt = 1 ∧ s0_95.toInt ≠ 0) ∨ (zfi p3.toInt = 0 ∧ s0_95.toInt = 0)) → w_X12_whole_95 p1 v_captures v_sort v_value v_least v_most v_parts v_firstPart v_inCase v_partBegin v_partEnd v_long0 v_signs Q s0_95 1 0 p2 p1 0 r8_0 r78_0 r78_1 r78_2 v_trail v_choices v_now v_spot v_slotNow v_textNow v_longNow v_steps v_limit v_isOver v_stamp false v_hasSpan v_spanCaptures r78_3 r78_4 r78_5 r78_6 r78_7 r78_8 r78_9 r78_10 v_reg v_trailOf v_trailOld v_choiceSort v_choiceAct v_choicePlace v_choiceTrail v_seen v_found v_span := by
            intro s0_95 f42 f43 f44 u95_0
            unfold w_X12_whole_95
            refine ok_X12_searched (gfi := (zfi p3.toInt)) (gN := r78_0.toInt) (v_holder := v_holder) (v_end := v_end) (v_many := v_many) (v_captures := v_captures) (v_steps := v_steps) (by omega) (by omega) (by omega) (by omega) (by omega) (by omega) (by omega) (by omega) (by omega) (by omega) (by omega) (rp_mono b0 (by omega) (by omega)) (rp_mono b1 (by omega) (by omega)) (rp_mono b2 (by omega) (by omega)) (by exact hC9) (by exact hS) (by exact u95_0) (by have h9 := zl0 (k := p2.toInt) b0 (by omega) (by omega); have e0 : (0 : Int32).toInt = 0 := rfl; omega) (fun r98 r98_0 r98_1 r98_2 r98_3 r98_4 r98_5 r98_6 r98_7 r98_8 r98_9 r98_10 r98_11 r98_12 r98_13 r98_14 r98_15 r98_16 r98_17 r98_18 r98_19 f45 f46 f47 f48 f49 f50 f51 f52 f53 f54 f55 f56 f57 f58 h59 h60 u98_0 => ?_)
            refine ⟨fun c106 => ?_, fun c106 => ?_⟩
            · have f61 : r98.toInt ≠ 2 := i_ne (a := r98.toInt) (b := 2) rfl rfl c106
              have j_125 : ∀ (s0_125 : Int32), 0 ≤ s0_125.toInt + 9 → s0_125.toInt ≤ 2 → ((s0_125.toInt = 0) ∨ (s0_125.toInt = 1 ∧ r98.toInt = 1)) → w_X12_whole_125 v_captures Q s0_125 p1 r98 0 r8_0 r78_0 r78_1 r78_2 r98_0 r98_1 r98_2 r98_3 r98_4 r98_5 r98_6 r98_7 r98_8 r98_9 r98_10 false v_hasSpan v_spanCaptures r78_3 r78_4 r78_5 r78_6 r78_7 r78_8 r78_9 r78_10 r98_11 r98_12 r98_13 r98_14 r98_15 r98_16 r98_17 r98_18 r98_19 v_span := by
                intro s0_125 f62 f63 f64
                unfold w_X12_whole_125
                refine ok_X12_keepSpan (v_sort := v_sort) (v_value := v_value) (v_least := v_least) (v_most := v_most) (v_holder := v_holder) (v_parts := v_parts) (v_end := v_end) (v_firstPart := v_firstPart) (v_partBegin := v_partBegin) (v_partEnd := v_partEnd) (v_many := v_many) (by omega) (by omega) (by omega) (by omega) (by exact hS) (fun r125_0 r125_1 r125_2 f65 f66 f67 => ?_)
                exact hq r98 0 r8_0 r78_0 r78_1 r78_2 r98_0 r98_1 r98_2 r98_3 r98_4 r98_5 r98_6 r98_7 r98_8 r98_9 r98_10 false r125_0 r125_1 r78_3 r78_4 r78_5 r78_6 r78_7 r78_8 r78_9 r78_10 r98_11 r98_12 r98_13 r98_14 r98_15 r98_16 r98_17 r98_18 r98_19 r125_2 (by omega) (by omega) (by omega) (by omega) (by omega) (rp_mono h59 (by omega) (by omega)) (rp_mono h59 (by omega) (by omega)) (rp_mono h60 (by omega) (by omega)) (by exact zGi_n rfl)
              refine ⟨fun c117 => ?_, fun c117 => ?_⟩
              · have f68 : r98.toInt ≠ 1 := i_ne (a := r98.toInt) (b := 1) rfl rfl c117
                exact j_125 0 (by omega) (by omega) (by omega)
              · have f69 : r98.toInt = 1 := i_eq (a := r98.toInt) (b := 1) rfl rfl c117
                exact j_125 1 (by omega) (by omega) (by omega)
            · have f70 : r98.toInt = 2 := i_eq (a := r98.toInt) (b := 2) rfl rfl c106
              exact hq (-8) 0 r8_0 r78_0 r78_1 r78_2 r98_0 r98_1 r98_2 r98_3 r98_4 r98_5 r98_6 r98_7 r98_8 r98_9 r98_10 false v_hasSpan v_spanCaptures r78_3 r78_4 r78_5 r78_6 r78_7 r78_8 r78_9 r78_10 r98_11 r98_12 r98_13 r98_14 r98_15 r98_16 r98_17 r98_18 r98_19 v_span (by omega) (by omega) (by omega) (by omega) (by omega) (rp_mono h59 (by omega) (by omega)) (rp_mono h59 (by omega) (by omega)) (rp_mono h59 (by omega) (by omega)) (by exact zGi_n rfl)
          refine ⟨fun c87 => ?_, fun c87 => ?_⟩
          · have f71 : p3.toInt ≤ 0 := i_le (a := p3.toInt) (b := 0) rfl rfl c87
            exact j_95 0 (by omega) (by omega) (by omega) (by first | exact Or.inl ⟨zfi_1 (by omega), by decide⟩ | exact Or.inr ⟨zfi_0 (by omega), rfl⟩)
          · have f72 : 0 < p3.toInt := i_nle (a := p3.toInt) (b := 0) rfl rfl c87
            exact j_95 1 (by omega) (by omega) (by omega) (by first | exact Or.inl ⟨zfi_1 (by omega), by decide⟩ | exact Or.inr ⟨zfi_0 (by omega), rfl⟩)
        refine ⟨fun c70 => ?_, fun c70 => ?_⟩
        · have f73 : p3.toInt ≤ 0 := i_le (a := p3.toInt) (b := 0) rfl rfl c70
          exact j_78 0 (by omega) (by omega) (by omega) (by first | exact Or.inl ⟨zfi_1 (by omega), by decide⟩ | exact Or.inr ⟨zfi_0 (by omega), rfl⟩)
        · have f74 : 0 < p3.toInt := i_nle (a := p3.toInt) (b := 0) rfl rfl c70
          exact j_78 1 (by omega) (by omega) (by omega) (by first | exact Or.inl ⟨zfi_1 (by omega), by decide⟩ | exact Or.inr ⟨zfi_0 (by omega), rfl⟩)
      · have f75 : s0_52.toInt ≠ 0 := i_ne (a := s0_52.toInt) (b := 0) rfl rfl c56
        exact hq s0_52 0 r8_0 v_acts v_labels v_tasks v_trail v_choices v_now v_spot v_slotNow v_textNow v_longNow v_steps v_limit v_isOver v_stamp v_isGoing v_hasSpan v_spanCaptures v_act v_actA v_actB v_labelAt v_task v_taskA v_taskB v_held v_reg v_trailOf v_trailOld v_choiceSort v_choiceAct v_choicePlace v_choiceTrail v_seen v_found v_span (by omega) (by omega) (by omega) (by omega) (by omega) (rp_mono b2 (by omega) (by omega)) (rp_mono b2 (by omega) (by omega)) (rp_mono b2 (by omega) (by omega)) (by exact u1)
    refine ⟨fun c38 => ?_, fun c38 => ?_⟩
    · have f76 : s0_34.toInt ≠ 0 := i_ne (a := s0_34.toInt) (b := 0) rfl rfl c38
      exact j_52 s0_34 (by omega) (by omega) (by omega) (by omega) (by omega) (by omega) (by omega) (by omega) (by omega) (by omega) (by omega) (by first | exact fun z => absurd z (by omega) | exact fun z => ⟨by omega, u44_0 z, (u44_1 z).1⟩)
    · have f77 : s0_34.toInt = 0 := i_eq (a := s0_34.toInt) (b := 0) rfl rfl c38
      have hSM := zAll_s u0 (u8_0 (by omega)) (by omega) (by omega)
      have hS := hSM.1
      have hM := hSM.2
      have f78 : 1 ≤ (zg v_many p1.toInt : Int) := (zS_n hS).1
      have f79 : (zg v_many p1.toInt : Int) ≤ 220 := (zS_n hS).2
      have f80 : 0 ≤ (zg v_captures p1.toInt : Int) := (zS_c hS).1
      have f81 : (zg v_captures p1.toInt : Int) ≤ 9 := (zS_c hS).2
      refine ok_X12_bars (v_holder := v_holder) (v_parts := v_parts) (v_end := v_end) (v_firstPart := v_firstPart) (v_partBegin := v_partBegin) (v_partEnd := v_partEnd) (v_captures := v_captures) (by omega) (by omega) (by exact hS) (fun r44 f82 u44_0 u44_1 => ?_)
      exact j_52 r44 (by omega) (by omega) (by omega) (by omega) (by omega) (by omega) (by omega) (by omega) (by omega) (by omega) (by omega) (by first | exact fun z => absurd z (by omega) | exact fun z => ⟨by omega, u44_0 z, (u44_1 z).1⟩)
  have j_32 : ((r8.toInt ≠ 0) ∨ (0 ≤ p3.toInt)) → ((r8.toInt ≠ 0) ∨ (p3.toInt ≤ 2)) → w_X12_whole_32 p1 p2 p3 v_many v_captures v_sort v_value v_least v_most v_parts v_end v_size v_positions v_firstPart v_mayEmpty v_inCase v_partBegin v_partEnd v_long0 v_signs Q r8 0 r8_0 v_acts v_labels v_tasks v_trail v_choices v_now v_spot v_slotNow v_textNow v_longNow v_steps v_limit v_isOver v_stamp v_isGoing v_hasSpan v_spanCaptures v_act v_actA v_actB v_labelAt v_task v_taskA v_taskB v_held v_reg v_trailOf v_trailOld v_choiceSort v_choiceAct v_choicePlace v_choiceTrail v_seen v_found v_span := by
    intro f83 f84
    unfold w_X12_whole_32
    exact j_34 r8 (by omega) (by omega) (by omega) (by omega) (by omega) (by omega) (by omega) (by omega) (by omega) (by first | exact fun z => absurd z (by decide) | exact fun z => z)
  refine ⟨fun c15 => ?_, fun c15 => ?_⟩
  · have f85 : r8.toInt ≠ 0 := i_ne (a := r8.toInt) (b := 0) rfl rfl c15
    exact j_32  (by omega) (by omega)
  · have f86 : r8.toInt = 0 := i_eq (a := r8.toInt) (b := 0) rfl rfl c15
    refine ok_X12_in  (fun r21 f87 f88 f89 f90 f91 f92 => ?_)
    refine ⟨fun c24 => ?_, fun c24 => ?_⟩
    · have f93 : r21.toInt ≠ 0 := i_ne (a := r21.toInt) (b := 0) rfl rfl c24
      exact j_32  (by omega) (by omega)
    · have f94 : r21.toInt = 0 := i_eq (a := r21.toInt) (b := 0) rfl rfl c24
      exact j_34 (-4) (by omega) (by omega) (by omega) (by omega) (by omega) (by omega) (by omega) (by omega) (by omega) (by first | exact fun z => absurd z (by decide) | exact fun z => z)
set_option maxHeartbeats 4000000 in
theorem ok_X12_findAll {p1 : Int32} {p2 : Int32} {p3 : Int32} {v_acts : Int32} {v_labels : Int32} {v_tasks : Int32} {v_trail : Int32} {v_choices : Int32} {v_now : Int32} {v_spot : Int32} {v_slotNow : Int32} {v_textNow : Int32} {v_longNow : Int32} {v_steps : Int32} {v_limit : Int32} {v_isOver : Bool} {v_stamp : Int32} {v_findMany : Int32} {v_sort : Nat → Int32} {v_value : Nat → Int32} {v_least : Nat → Int32} {v_most : Nat → Int32} {v_parts : Nat → Int32} {v_end : Nat → Int32} {v_firstPart : Nat → Int32} {v_inCase : Nat → Bool} {v_partBegin : Nat → Int32} {v_partEnd : Nat → Int32} {v_long0 : Nat → Int32} {v_signs : Nat → Int32} {v_act : Nat → Int32} {v_actA : Nat → Int32} {v_actB : Nat → Int32} {v_labelAt : Nat → Int32} {v_task : Nat → Int32} {v_taskA : Nat → Int32} {v_taskB : Nat → Int32} {v_held : Nat → Int32} {v_reg : Nat → Int32} {v_trailOf : Nat → Int32} {v_trailOld : Nat → Int32} {v_choiceSort : Nat → Int32} {v_choiceAct : Nat → Int32} {v_choicePlace : Nat → Int32} {v_choiceTrail : Nat → Int32} {v_seen : Nat → Int32} {v_found : Nat → Int32} {v_finds : Nat → Int32} {v_holder : Nat → Int32} {v_many : Nat → Int32} {v_captures : Nat → Int32} {v_size : Nat → Int32} {v_positions : Nat → Int32} {Q : Int32 → Int32 → Int32 → Int32 → Int32 → Int32 → Int32 → Int32 → Int32 → Int32 → Int32 → Int32 → Int32 → Bool → Int32 → Bool → Int32 → (Nat → Int32) → (Nat → Int32) → (Nat → Int32) → (Nat → Int32) → (Nat → Int32) → (Nat → Int32) → (Nat → Int32) → (Nat → Int32) → (Nat → Int32) → (Nat → Int32) → (Nat → Int32) → (Nat → Int32) → (Nat → Int32) → (Nat → Int32) → (Nat → Int32) → (Nat → Int32) → (Nat → Int32) → (Nat → Int32) → Prop} (a0 : 0 ≤ p1.toInt) (a1 : p1.toInt ≤ 5) (a2 : 0 ≤ p2.toInt) (a3 : p2.toInt ≤ 3) (a4 : 0 ≤ p3.toInt) (a5 : p3.toInt ≤ 2) (b0 : rp (fun k v => 0 ≤ v ∧ v ≤ 100) v_long0 0 4) (b1 : rp (fun k v => 0 ≤ v ∧ v ≤ 65535) v_signs 0 400) (b2 : rp (fun k v => 0 ≤ v ∧ v ≤ 1129) v_trailOf 0 v_trail.toInt) (u0 : zSl v_sort v_value v_least v_most v_holder v_parts v_end v_firstPart v_partBegin v_partEnd (220 * p1.toInt) (420 * p1.toInt) (zg v_many p1.toInt) (zg v_captures p1.toInt)) (u1 : zMs v_sort v_least v_most v_end v_size v_positions (220 * p1.toInt) 0 (zg v_many p1.toInt)) (u2 : 1 ≤ p3.toInt → zKb v_sort (220 * p1.toInt) (zg v_many p1.toInt)) (u3 : 1 ≤ p3.toInt → zg v_size (220 * p1.toInt) ≤ 200) (hq : ∀ (r : Int32) (ov_acts : Int32) (ov_labels : Int32) (ov_tasks : Int32) (ov_trail : Int32) (ov_choices : Int32) (ov_now : Int32) (ov_spot : Int32) (ov_slotNow : Int32) (ov_textNow : Int32) (ov_longNow : Int32) (ov_steps : Int32) (ov_limit : Int32) (ov_isOver : Bool) (ov_stamp : Int32) (ov_isGoing : Bool) (ov_findMany : Int32) (ov_act : Nat → Int32) (ov_actA : Nat → Int32) (ov_actB : Nat → Int32) (ov_labelAt : Nat → Int32) (ov_task : Nat → Int32) (ov_taskA : Nat → Int32) (ov_taskB : Nat → Int32) (ov_held : Nat → Int32) (ov_reg : Nat → Int32) (ov_trailOf : Nat → Int32) (ov_trailOld : Nat → Int32) (ov_choiceSort : Nat → Int32) (ov_choiceAct : Nat → Int32) (ov_choicePlace : Nat → Int32) (ov_choiceTrail : Nat → Int32) (ov_seen : Nat → Int32) (ov_found : Nat → Int32) (ov_finds : Nat → Int32), (bz ov_isGoing).toInt = 0 → 0 ≤ ov_acts.toInt + 1 → 0 ≤ ov_acts.toInt → 0 ≤ ov_labels.toInt + 1 → 0 ≤ ov_labels.toInt → 0 ≤ ov_tasks.toInt + 1 → 0 ≤ ov_tasks.toInt → ov_acts.toInt ≤ 2700 → ov_tasks.toInt ≤ 0 → 0 ≤ ov_findMany.toInt + 1 → 0 ≤ ov_findMany.toInt → ov_findMany.toInt ≤ 2999 → ov_findMany.toInt ≤ 3000 → ov_findMany.toInt ≤ 3001 → ov_tasks.toInt ≤ ov_findMany.toInt → ov_findMany.toInt ≤ 101 → 0 ≤ r.toInt + 8 → r.toInt ≤ 0 → ((r.toInt = 0) ∨ (r.toInt + 8 = 0)) → rp (fun k v => 0 ≤ v ∧ v ≤ 1129) ov_trailOf 0 ov_trail.toInt → rp (fun k v => 0 ≤ v ∧ v ≤ 1129) ov_trailOf (r.toInt + 8) ov_trail.toInt → rp (fun k v => 0 ≤ v ∧ v ≤ 1129) ov_trailOf ov_findMany.toInt ov_trail.toInt → (r.toInt = 0 → zFi ov_finds ov_findMany.toInt (zg v_long0 p2.toInt)) → Q r ov_acts ov_labels ov_tasks ov_trail ov_choices ov_now ov_spot ov_slotNow ov_textNow ov_longNow ov_steps ov_limit ov_isOver ov_stamp ov_isGoing ov_findMany ov_act ov_actA ov_actB ov_labelAt ov_task ov_taskA ov_taskB ov_held ov_reg ov_trailOf ov_trailOld ov_choiceSort ov_choiceAct ov_choicePlace ov_choiceTrail ov_seen ov_found ov_finds) : w_X12_findAll p1 p2 p3 v_acts v_labels v_tasks v_trail v_choices v_now v_spot v_slotNow v_textNow v_longNow v_steps v_limit v_isOver v_stamp v_findMany v_sort v_value v_least v_most v_parts v_end v_firstPart v_inCase v_partBegin v_partEnd v_long0 v_signs v_act v_actA v_actB v_labelAt v_task v_taskA v_taskB v_held v_reg v_trailOf v_trailOld v_choiceSort v_choiceAct v_choicePlace v_choiceTrail v_seen v_found v_finds Q := by
  have q_t : (bz true).toInt = 1 := rfl
  have q_f : (bz false).toInt = 0 := rfl
  have q_m8 : ((-8) : Int32).toInt = (-8) := rfl
  have q_0 : (0 : Int32).toInt = 0 := rfl
  have q_1 : (1 : Int32).toInt = 1 := rfl
  have q_3000 : (3000 : Int32).toInt = 3000 := rfl
  unfold w_X12_findAll
  have hCm := zCm (m := p3.toInt) u0 u1 u2 u3
  have j_16 : ∀ (s0_16 : Int32), s0_16.toInt ≤ 101 → 0 ≤ s0_16.toInt → ((s0_16.toInt = 0 ∧ p3.toInt ≤ 0) ∨ (s0_16.toInt = 1 ∧ 1 ≤ p3.toInt)) → ((zfi p3.toInt = 1 ∧ s0_16.toInt ≠ 0) ∨ (zfi p3.toInt = 0 ∧ s0_16.toInt = 0)) → w_X12_findAll_16 p1 p2 p3 v_sort v_value v_least v_most v_parts v_end v_firstPart v_inCase v_partBegin v_partEnd v_long0 v_signs Q s0_16 p1 v_acts v_labels v_tasks v_trail v_choices v_now v_spot v_slotNow v_textNow v_longNow v_steps v_limit v_isOver v_stamp false v_findMany v_act v_actA v_actB v_labelAt v_task v_taskA v_taskB v_held v_reg v_trailOf v_trailOld v_choiceSort v_choiceAct v_choicePlace v_choiceTrail v_seen v_found v_finds := by
    intro s0_16 f1 f2 f3 u16_0
    unfold w_X12_findAll_16
    have hf9 := u16_0
    refine ok_X12_compile (gZ := (zzz p3.toInt v_end v_size (220 * p1.toInt))) (gfi := (zfi p3.toInt)) (v_holder := v_holder) (v_parts := v_parts) (v_firstPart := v_firstPart) (v_partBegin := v_partBegin) (v_partEnd := v_partEnd) (v_acts := v_acts) (v_labels := v_labels) (v_tasks := v_tasks) (v_many := v_many) (v_captures := v_captures) (gP := (fun _ => 0)) (gE := 0) (by omega) (by omega) (by omega) (by omega) (by exact u0) (by exact hCm.1) (by exact hCm.2.1) (by exact hf9) (by exact hCm.2.2) (by exact fun z => absurd z (by decide)) (fun r16_0 r16_1 r16_2 r16_3 r16_4 r16_5 r16_6 r16_7 r16_8 r16_9 r16_10 f4 f5 f6 f7 f8 f9 f10 f11 u16_0 u16_1 => ?_)
    have j_27 : ∀ n_27 : Nat, ∀ (l4_27 : Int32) (v_trail_27 : Int32) (v_choices_27 : Int32) (v_now_27 : Int32) (v_spot_27 : Int32) (v_slotNow_27 : Int32) (v_textNow_27 : Int32) (v_longNow_27 : Int32) (v_steps_27 : Int32) (v_limit_27 : Int32) (v_isOver_27 : Bool) (v_stamp_27 : Int32) (v_findMany_27 : Int32) (v_reg_27 : Nat → Int32) (v_trailOf_27 : Nat → Int32) (v_trailOld_27 : Nat → Int32) (v_choiceSort_27 : Nat → Int32) (v_choiceAct_27 : Nat → Int32) (v_choicePlace_27 : Nat → Int32) (v_choiceTrail_27 : Nat → Int32) (v_seen_27 : Nat → Int32) (v_found_27 : Nat → Int32) (v_finds_27 : Nat → Int32), v_findMany_27.toInt ≤ l4_27.toInt → l4_27.toInt ≤ 101 → 0 ≤ v_findMany_27.toInt → rp (fun k v => 0 ≤ v ∧ v ≤ 1129) v_trailOf_27 0 v_trail_27.toInt → rp (fun k v => 0 ≤ v ∧ v ≤ 1129) v_trailOf_27 l4_27.toInt v_trail_27.toInt → rp (fun k v => 0 ≤ v ∧ v ≤ 1129) v_trailOf_27 v_findMany_27.toInt v_trail_27.toInt → (zFi v_finds_27 v_findMany_27.toInt (zg v_long0 p2.toInt)) → ((-1) * v_findMany_27.toInt + 3000).toNat < n_27 → w_X12_findAll_27 p1 p2 p3 v_sort v_value v_least v_most v_parts v_firstPart v_inCase v_partBegin v_partEnd v_long0 v_signs Q r16_0 r16_1 r16_2 false r16_3 r16_4 r16_5 r16_6 r16_7 r16_8 r16_9 r16_10 n_27 l4_27 v_trail_27 v_choices_27 v_now_27 v_spot_27 v_slotNow_27 v_textNow_27 v_longNow_27 v_steps_27 v_limit_27 v_isOver_27 v_stamp_27 v_findMany_27 v_reg_27 v_trailOf_27 v_trailOld_27 v_choiceSort_27 v_choiceAct_27 v_choicePlace_27 v_choiceTrail_27 v_seen_27 v_found_27 v_finds_27 := by
      intro n_27
      induction n_27 with
      | zero =>
        intro l4_27 v_trail_27 v_choices_27 v_now_27 v_spot_27 v_slotNow_27 v_textNow_27 v_longNow_27 v_steps_27 v_limit_27 v_isOver_27 v_stamp_27 v_findMany_27 v_reg_27 v_trailOf_27 v_trailOld_27 v_choiceSort_27 v_choiceAct_27 v_choicePlace_27 v_choiceTrail_27 v_seen_27 v_found_27 v_finds_27 f12 f13 f14 h15 h16 h17 u27_0 hm_27
        exfalso; omega
      | succ n_27 ih_27 =>
        intro l4_27 v_trail_27 v_choices_27 v_now_27 v_spot_27 v_slotNow_27 v_textNow_27 v_longNow_27 v_steps_27 v_limit_27 v_isOver_27 v_stamp_27 v_findMany_27 v_reg_27 v_trailOf_27 v_trailOld_27 v_choiceSort_27 v_choiceAct_27 v_choicePlace_27 v_choiceTrail_27 v_seen_27 v_found_27 v_finds_27 f12 f13 f14 h15 h16 h17 u27_0 hm_27
        unfold w_X12_findAll_27
        unfold w_X12_findAll_27B
        refine ⟨i_in (by omega) (by omega), ?_⟩
        intro x34 ex34
        have f18 : 0 ≤ x34.toInt ∧ x34.toInt ≤ 100 := by have h9 := rp_get (P := (fun k v => 0 ≤ v ∧ v ≤ 100)) (a := p2.toInt) b0 ex34 rfl (by omega) (by omega) (by omega); omega
        have h34 := zg_at ex34
        refine ⟨fun c35 => ?_, fun c35 => ?_⟩
        · have f19 : x34.toInt < l4_27.toInt := i_lt (a := x34.toInt) (b := l4_27.toInt) rfl rfl c35
          exact hq 0 r16_0 r16_1 r16_2 v_trail_27 v_choices_27 v_now_27 v_spot_27 v_slotNow_27 v_textNow_27 v_longNow_27 v_steps_27 v_limit_27 v_isOver_27 v_stamp_27 false v_findMany_27 r16_3 r16_4 r16_5 r16_6 r16_7 r16_8 r16_9 r16_10 v_reg_27 v_trailOf_27 v_trailOld_27 v_choiceSort_27 v_choiceAct_27 v_choicePlace_27 v_choiceTrail_27 v_seen_27 v_found_27 v_finds_27 (by omega) (by omega) (by omega) (by omega) (by omega) (by omega) (by omega) (by omega) (by omega) (by omega) (by omega) (by omega) (by omega) (by omega) (by omega) (by omega) (by omega) (by omega) (by omega) (rp_mono h15 (by omega) (by omega)) (rp_mono h15 (by omega) (by omega)) (rp_mono h17 (by omega) (by omega)) (by exact fun _ => u27_0)
        · have f20 : l4_27.toInt ≤ x34.toInt := i_nlt (a := x34.toInt) (b := l4_27.toInt) rfl rfl c35
          have j_53 : ∀ (s0_53 : Int32), s0_53.toInt ≤ 101 → 0 ≤ s0_53.toInt → ((s0_53.toInt = 0 ∧ p3.toInt ≤ 0) ∨ (s0_53.toInt = 1 ∧ 1 ≤ p3.toInt)) → ((zfi p3.toInt = 1 ∧ s0_53.toInt ≠ 0) ∨ (zfi p3.toInt = 0 ∧ s0_53.toInt = 0)) → w_X12_findAll_53 v_sort v_value v_least v_most v_parts v_firstPart v_inCase v_partBegin v_partEnd v_long0 v_signs r16_0 r16_1 r16_2 false r16_3 r16_4 r16_5 r16_6 r16_7 r16_8 r16_9 r16_10 Q (w_X12_findAll_27 p1 p2 p3 v_sort v_value v_least v_most v_parts v_firstPart v_inCase v_partBegin v_partEnd v_long0 v_signs Q r16_0 r16_1 r16_2 false r16_3 r16_4 r16_5 r16_6 r16_7 r16_8 r16_9 r16_10 n_27) s0_53 0 l4_27 p2 p1 v_trail_27 v_choices_27 v_now_27 v_spot_27 v_slotNow_27 v_textNow_27 v_longNow_27 v_steps_27 v_limit_27 v_isOver_27 v_stamp_27 v_findMany_27 v_reg_27 v_trailOf_27 v_trailOld_27 v_choiceSort_27 v_choiceAct_27 v_choicePlace_27 v_choiceTrail_27 v_seen_27 v_found_27 v_finds_27 := by
            intro s0_53 f21 f22 f23 u53_0
            unfold w_X12_findAll_53
            refine ok_X12_searched (gfi := (zfi p3.toInt)) (gN := r16_0.toInt) (v_holder := v_holder) (v_end := v_end) (v_many := v_many) (v_captures := v_captures) (v_steps := v_steps_27) (by omega) (by omega) (by omega) (by omega) (by omega) (by omega) (by omega) (by omega) (by omega) (by omega) (by omega) (rp_mono b0 (by omega) (by omega)) (rp_mono b1 (by omega) (by omega)) (rp_mono h15 (by omega) (by omega)) (by exact u16_0) (by exact u0) (by exact u53_0) (by omega) (fun r56 r56_0 r56_1 r56_2 r56_3 r56_4 r56_5 r56_6 r56_7 r56_8 r56_9 r56_10 r56_11 r56_12 r56_13 r56_14 r56_15 r56_16 r56_17 r56_18 r56_19 f24 f25 f26 f27 f28 f29 f30 f31 f32 f33 f34 f35 f36 f37 h38 h39 u56_0 => ?_)
            refine ⟨fun c64 => ?_, fun c64 => ?_⟩
            · have f40 : r56.toInt ≠ 2 := i_ne (a := r56.toInt) (b := 2) rfl rfl c64
              refine ⟨fun c72 => ?_, fun c72 => ?_⟩
              · have f41 : r56.toInt ≠ 0 := i_ne (a := r56.toInt) (b := 0) rfl rfl c72
                have j_80 : ∀ n_80 : Nat, ∀ (l6_80 : Int32) (v_finds_80 : Nat → Int32), l6_80.toInt ≤ 20 → r16_2.toInt ≤ l6_80.toInt → (zFk v_finds_27 v_finds_80 r56_19 v_findMany_27.toInt l6_80.toInt) → ((-1) * l6_80.toInt + 20).toNat < n_80 → w_X12_findAll_80 Q (w_X12_findAll_27 p1 p2 p3 v_sort v_value v_least v_most v_parts v_firstPart v_inCase v_partBegin v_partEnd v_long0 v_signs Q r16_0 r16_1 r16_2 false r16_3 r16_4 r16_5 r16_6 r16_7 r16_8 r16_9 r16_10 n_27) r56_0 r56_1 r56_2 r56_3 r56_4 r56_5 r56_6 r56_7 r56_8 r56_9 r56_10 v_findMany_27 r56_11 r56_12 r56_13 r56_14 r56_15 r56_16 r56_17 r56_18 r56_19 n_80 l6_80 v_finds_80 := by
                  intro n_80
                  induction n_80 with
                  | zero =>
                    intro l6_80 v_finds_80 f42 f43 u80_0 hm_80
                    exfalso; omega
                  | succ n_80 ih_80 =>
                    intro l6_80 v_finds_80 f42 f43 u80_0 hm_80
                    unfold w_X12_findAll_80
                    unfold w_X12_findAll_80B
                    refine ⟨fun c84 => ?_, fun c84 => ?_⟩
                    · have f44 : 20 ≤ l6_80.toInt := i_le (a := 20) (b := l6_80.toInt) rfl rfl c84
                      intro x121 ex121
                      have f45 : x121.toInt = v_findMany_27.toInt + 1 := i_add (a := v_findMany_27.toInt) (b := 1) ex121 rfl rfl (by omega) (by omega)
                      intro x130 ex130
                      have hF9 := (u56_0 (by omega)).2 (by omega)
                      have h130 := zg_at2 (k := 0) ex130 rfl
                      intro x136 ex136
                      have h136 := zg_at2 (k := 1) ex136 rfl
                      have f46 : l4_27.toInt ≤ x130.toInt := by omega
                      have f47 : x130.toInt ≤ x136.toInt := by omega
                      have f48 : x136.toInt ≤ x34.toInt := by omega
                      have j_157 : ∀ (s0_157 : Int32), s0_157.toInt ≤ 101 → x121.toInt ≤ s0_157.toInt → ((s0_157.toInt = x136.toInt) ∨ (x130.toInt = x136.toInt ∧ s0_157.toInt = x136.toInt + 1)) → w_X12_findAll_157 Q (w_X12_findAll_27 p1 p2 p3 v_sort v_value v_least v_most v_parts v_firstPart v_inCase v_partBegin v_partEnd v_long0 v_signs Q r16_0 r16_1 r16_2 false r16_3 r16_4 r16_5 r16_6 r16_7 r16_8 r16_9 r16_10 n_27) s0_157 r56_0 r56_1 r56_2 r56_3 r56_4 r56_5 r56_6 r56_7 r56_8 r56_9 r56_10 x121 r56_11 r56_12 r56_13 r56_14 r56_15 r56_16 r56_17 r56_18 r56_19 v_finds_80 := by
                        intro s0_157 f49 f50 f51
                        unfold w_X12_findAll_157
                        exact ih_27 s0_157 r56_0 r56_1 r56_2 r56_3 r56_4 r56_5 r56_6 r56_7 r56_8 r56_9 r56_10 x121 r56_11 r56_12 r56_13 r56_14 r56_15 r56_16 r56_17 r56_18 r56_19 v_finds_80  (by omega) (by omega) (by omega) (rp_mono h38 (by omega) (by omega)) (rp_mono h39 (by omega) (by omega)) (rp_mono h39 (by omega) (by omega)) (by first | exact zFi_0 (by decide) | exact zFi_s u27_0 u80_0 (u56_0 (by omega)) (by omega) (by omega) (by omega) (by omega)) (by have h8_0 := i_rng v_findMany_27; have h8_1 := i_rng x121; omega)
                      refine ⟨fun c137 => ?_, fun c137 => ?_⟩
                      · have f52 : x130.toInt ≠ x136.toInt := i_ne (a := x130.toInt) (b := x136.toInt) rfl rfl c137
                        intro x156 ex156
                        have f53 : x156.toInt = x136.toInt := congrArg Int32.toInt (ex156.trans ex136.symm)
                        exact j_157 x156 (by omega) (by omega) (by omega)
                      · have f54 : x130.toInt = x136.toInt := i_eq (a := x130.toInt) (b := x136.toInt) rfl rfl c137
                        intro x145 ex145
                        have f55 : x145.toInt = x136.toInt := congrArg Int32.toInt (ex145.trans ex136.symm)
                        intro x147 ex147
                        have f56 : x147.toInt = x145.toInt + 1 := i_add (a := x145.toInt) (b := 1) ex147 rfl rfl (by omega) (by omega)
                        exact j_157 x147 (by omega) (by omega) (by omega)
                    · have f57 : l6_80.toInt < 20 := i_nle (a := 20) (b := l6_80.toInt) rfl rfl c84
                      intro x97 ex97
                      have f58 : x97.toInt = 20 * v_findMany_27.toInt := i_mul (a := 20) (b := v_findMany_27.toInt) ex97 rfl rfl (by omega) (by omega)
                      intro x100 ex100
                      have f59 : x100.toInt = x97.toInt + l6_80.toInt := i_add (a := x97.toInt) (b := l6_80.toInt) ex100 rfl rfl (by omega) (by omega)
                      refine ⟨i_in (by omega) (by omega), ?_⟩
                      intro x107 ex107
                      refine ⟨i_in (by omega) (by omega), ?_⟩
                      intro g108 eg108
                      intro x109 ex109
                      have f60 : x109.toInt = l6_80.toInt + 1 := i_add (a := l6_80.toInt) (b := 1) ex109 rfl rfl (by omega) (by omega)
                      exact ih_80 x109 g108  (by omega) (by omega) (by first | exact zFk_0 (by decide) | exact zFk_s u80_0 eg108 ex107 (by omega) (by omega) (by omega) (by omega)) (by have h8_0 := i_rng l6_80; have h8_1 := i_rng x109; omega)
                exact ⟨(20 : Int).toNat + 1, j_80   ((20 : Int).toNat + 1) 0 v_finds_27  (by omega) (by omega) (by first | exact zFk_0 (by decide) | exact zFk_s u80_0 eg108 ex107 (by omega) (by omega) (by omega) (by omega)) (by omega)⟩
              · have f61 : r56.toInt = 0 := i_eq (a := r56.toInt) (b := 0) rfl rfl c72
                exact hq 0 r16_0 r16_1 r16_2 r56_0 r56_1 r56_2 r56_3 r56_4 r56_5 r56_6 r56_7 r56_8 r56_9 r56_10 false v_findMany_27 r16_3 r16_4 r16_5 r16_6 r16_7 r16_8 r16_9 r16_10 r56_11 r56_12 r56_13 r56_14 r56_15 r56_16 r56_17 r56_18 r56_19 v_finds_27 (by omega) (by omega) (by omega) (by omega) (by omega) (by omega) (by omega) (by omega) (by omega) (by omega) (by omega) (by omega) (by omega) (by omega) (by omega) (by omega) (by omega) (by omega) (by omega) (rp_mono h39 (by omega) (by omega)) (rp_mono h39 (by omega) (by omega)) (rp_mono h39 (by omega) (by omega)) (by exact fun _ => u27_0)
            · have f62 : r56.toInt = 2 := i_eq (a := r56.toInt) (b := 2) rfl rfl c64
              exact hq (-8) r16_0 r16_1 r16_2 r56_0 r56_1 r56_2 r56_3 r56_4 r56_5 r56_6 r56_7 r56_8 r56_9 r56_10 false v_findMany_27 r16_3 r16_4 r16_5 r16_6 r16_7 r16_8 r16_9 r16_10 r56_11 r56_12 r56_13 r56_14 r56_15 r56_16 r56_17 r56_18 r56_19 v_finds_27 (by omega) (by omega) (by omega) (by omega) (by omega) (by omega) (by omega) (by omega) (by omega) (by omega) (by omega) (by omega) (by omega) (by omega) (by omega) (by omega) (by omega) (by omega) (by omega) (rp_mono h38 (by omega) (by omega)) (rp_mono h38 (by omega) (by omega)) (rp_mono h38 (by omega) (by omega)) (by exact fun z => absurd z (by decide))
          refine ⟨fun c45 => ?_, fun c45 => ?_⟩
          · have f63 : p3.toInt ≤ 0 := i_le (a := p3.toInt) (b := 0) rfl rfl c45
            exact j_53 0 (by omega) (by omega) (by omega) (by first | exact Or.inl ⟨zfi_1 (by omega), by decide⟩ | exact Or.inr ⟨zfi_0 (by omega), rfl⟩)
          · have f64 : 0 < p3.toInt := i_nle (a := p3.toInt) (b := 0) rfl rfl c45
            exact j_53 1 (by omega) (by omega) (by omega) (by first | exact Or.inl ⟨zfi_1 (by omega), by decide⟩ | exact Or.inr ⟨zfi_0 (by omega), rfl⟩)
    exact ⟨(3000 : Int).toNat + 1, j_27   ((3000 : Int).toNat + 1) 0 v_trail v_choices v_now v_spot v_slotNow v_textNow v_longNow v_steps v_limit v_isOver v_stamp 0 v_reg v_trailOf v_trailOld v_choiceSort v_choiceAct v_choicePlace v_choiceTrail v_seen v_found v_finds  (by omega) (by omega) (by omega) (rp_mono b2 (by omega) (by omega)) (rp_mono b2 (by omega) (by omega)) (rp_mono b2 (by omega) (by omega)) (by first | exact zFi_0 (by decide) | exact zFi_s u27_0 u80_0 (u56_0 (by omega)) (by omega) (by omega) (by omega) (by omega)) (by omega)⟩
  refine ⟨fun c8 => ?_, fun c8 => ?_⟩
  · have f65 : p3.toInt ≤ 0 := i_le (a := p3.toInt) (b := 0) rfl rfl c8
    exact j_16 0 (by omega) (by omega) (by omega) (by first | exact Or.inl ⟨zfi_1 (by omega), by decide⟩ | exact Or.inr ⟨zfi_0 (by omega), rfl⟩)
  · have f66 : 0 < p3.toInt := i_nle (a := p3.toInt) (b := 0) rfl rfl c8
    exact j_16 1 (by omega) (by omega) (by omega) (by first | exact Or.inl ⟨zfi_1 (by omega), by decide⟩ | exact Or.inr ⟨zfi_0 (by omega), rfl⟩)
set_option maxHeartbeats 4000000 in
theorem ok_X12_all {p1 : Int32} {p2 : Int32} {p3 : Int32} {v_finding : Int32} {v_outMany : Int32} {v_outNumbers : Bool} {v_acts : Int32} {v_labels : Int32} {v_tasks : Int32} {v_trail : Int32} {v_choices : Int32} {v_now : Int32} {v_spot : Int32} {v_slotNow : Int32} {v_textNow : Int32} {v_longNow : Int32} {v_steps : Int32} {v_limit : Int32} {v_isOver : Bool} {v_stamp : Int32} {v_isGoing : Bool} {v_findMany : Int32} {v_isThere : Nat → Bool} {v_many : Nat → Int32} {v_sort : Nat → Int32} {v_value : Nat → Int32} {v_least : Nat → Int32} {v_most : Nat → Int32} {v_parts : Nat → Int32} {v_end : Nat → Int32} {v_size : Nat → Int32} {v_positions : Nat → Int32} {v_firstPart : Nat → Int32} {v_mayEmpty : Nat → Bool} {v_inCase : Nat → Bool} {v_partBegin : Nat → Int32} {v_partEnd : Nat → Int32} {v_out : Nat → Int32} {v_isSubject : Nat → Bool} {v_long0 : Nat → Int32} {v_signs : Nat → Int32} {v_act : Nat → Int32} {v_actA : Nat → Int32} {v_actB : Nat → Int32} {v_labelAt : Nat → Int32} {v_task : Nat → Int32} {v_taskA : Nat → Int32} {v_taskB : Nat → Int32} {v_held : Nat → Int32} {v_reg : Nat → Int32} {v_trailOf : Nat → Int32} {v_trailOld : Nat → Int32} {v_choiceSort : Nat → Int32} {v_choiceAct : Nat → Int32} {v_choicePlace : Nat → Int32} {v_choiceTrail : Nat → Int32} {v_seen : Nat → Int32} {v_found : Nat → Int32} {v_finds : Nat → Int32} {v_captures : Nat → Int32} {v_holder : Nat → Int32} {v_goSlot : Int32} {v_goSubject : Int32} {v_goFrom : Int32} {v_goSteps : Int32} {Q : Int32 → Int32 → Int32 → Int32 → Bool → Int32 → Int32 → Int32 → Int32 → Int32 → Int32 → Int32 → Int32 → Int32 → Int32 → Int32 → Int32 → Bool → Int32 → Bool → Int32 → (Nat → Int32) → (Nat → Int32) → (Nat → Int32) → (Nat → Int32) → (Nat → Int32) → (Nat → Int32) → (Nat → Int32) → (Nat → Int32) → (Nat → Int32) → (Nat → Int32) → (Nat → Int32) → (Nat → Int32) → (Nat → Int32) → (Nat → Int32) → (Nat → Int32) → (Nat → Int32) → (Nat → Int32) → (Nat → Int32) → (Nat → Int32) → Prop} (a0 : 0 ≤ v_outMany.toInt) (a1 : v_outMany.toInt ≤ 400) (b0 : rp (fun k v => 0 ≤ v ∧ v ≤ 100) v_long0 0 4) (b1 : rp (fun k v => 0 ≤ v ∧ v ≤ 65535) v_signs 0 400) (b2 : rp (fun k v => 0 ≤ v ∧ v ≤ 1129) v_trailOf 0 v_trail.toInt) (u0 : zAll v_isThere v_many v_captures v_sort v_value v_least v_most v_holder v_parts v_end v_firstPart v_partBegin v_partEnd v_size v_positions) (u1 : zGi v_isGoing v_isThere v_long0 v_goSlot.toInt v_goSubject.toInt v_goFrom.toInt v_goSteps.toInt) (hq : ∀ (r : Int32) (ov_thrown : Int32) (ov_finding : Int32) (ov_outMany : Int32) (ov_outNumbers : Bool) (ov_acts : Int32) (ov_labels : Int32) (ov_tasks : Int32) (ov_trail : Int32) (ov_choices : Int32) (ov_now : Int32) (ov_spot : Int32) (ov_slotNow : Int32) (ov_textNow : Int32) (ov_longNow : Int32) (ov_steps : Int32) (ov_limit : Int32) (ov_isOver : Bool) (ov_stamp : Int32) (ov_isGoing : Bool) (ov_findMany : Int32) (ov_out : Nat → Int32) (ov_act : Nat → Int32) (ov_actA : Nat → Int32) (ov_actB : Nat → Int32) (ov_labelAt : Nat → Int32) (ov_task : Nat → Int32) (ov_taskA : Nat → Int32) (ov_taskB : Nat → Int32) (ov_held : Nat → Int32) (ov_reg : Nat → Int32) (ov_trailOf : Nat → Int32) (ov_trailOld : Nat → Int32) (ov_choiceSort : Nat → Int32) (ov_choiceAct : Nat → Int32) (ov_choicePlace : Nat → Int32) (ov_choiceTrail : Nat → Int32) (ov_seen : Nat → Int32) (ov_found : Nat → Int32) (ov_finds : Nat → Int32), ov_thrown.toInt = 0 → 0 ≤ r.toInt + 8 → r.toInt ≤ 101 → 0 ≤ ov_outMany.toInt → ov_outMany.toInt ≤ 400 → rp (fun k v => 0 ≤ v ∧ v ≤ 1129) ov_trailOf 0 ov_trail.toInt → rp (fun k v => 0 ≤ v ∧ v ≤ 1129) ov_trailOf ov_thrown.toInt ov_trail.toInt → rp (fun k v => 0 ≤ v ∧ v ≤ 1129) ov_trailOf (r.toInt + 8) ov_trail.toInt → (zGi ov_isGoing v_isThere v_long0 v_goSlot.toInt v_goSubject.toInt v_goFrom.toInt v_goSteps.toInt) → Q r ov_thrown ov_finding ov_outMany ov_outNumbers ov_acts ov_labels ov_tasks ov_trail ov_choices ov_now ov_spot ov_slotNow ov_textNow ov_longNow ov_steps ov_limit ov_isOver ov_stamp ov_isGoing ov_findMany ov_out ov_act ov_actA ov_actB ov_labelAt ov_task ov_taskA ov_taskB ov_held ov_reg ov_trailOf ov_trailOld ov_choiceSort ov_choiceAct ov_choicePlace ov_choiceTrail ov_seen ov_found ov_finds) : w_X12_all p1 p2 p3 v_finding v_outMany v_outNumbers v_acts v_labels v_tasks v_trail v_choices v_now v_spot v_slotNow v_textNow v_longNow v_steps v_limit v_isOver v_stamp v_isGoing v_findMany v_isThere v_many v_sort v_value v_least v_most v_parts v_end v_size v_positions v_firstPart v_mayEmpty v_inCase v_partBegin v_partEnd v_out v_isSubject v_long0 v_signs v_act v_actA v_actB v_labelAt v_task v_taskA v_taskB v_held v_reg v_trailOf v_trailOld v_choiceSort v_choiceAct v_choicePlace v_choiceTrail v_seen v_found v_finds Q := by
  have q_t : (bz true).toInt = 1 := rfl
  have q_f : (bz false).toInt = 0 := rfl
  have q_m4 : ((-4) : Int32).toInt = (-4) := rfl
  have q_0 : (0 : Int32).toInt = 0 := rfl
  have q_2 : (2 : Int32).toInt = 2 := rfl
  unfold w_X12_all
  refine ok_X12_wrongBoth  (fun r8 r8_0 f1 f2 f3 f4 f5 u8_0 => ?_)
  have j_34 : ∀ (s0_34 : Int32), ((s0_34.toInt + 4 = 0 ∧ r8.toInt = 0) ∨ (s0_34.toInt = r8.toInt)) → (s0_34.toInt = 0 → (r8.toInt = 0 ∧ (0 ≤ p1.toInt ∧ p1.toInt ≤ 5) ∧ (0 ≤ p2.toInt ∧ p2.toInt ≤ 3) ∧ (0 ≤ p3.toInt ∧ p3.toInt ≤ 2))) → w_X12_all_34 p1 p2 p3 v_many v_sort v_value v_least v_most v_parts v_end v_size v_positions v_firstPart v_mayEmpty v_inCase v_partBegin v_partEnd v_long0 v_signs Q s0_34 0 r8_0 v_outMany v_outNumbers v_acts v_labels v_tasks v_trail v_choices v_now v_spot v_slotNow v_textNow v_longNow v_steps v_limit v_isOver v_stamp v_isGoing v_findMany v_out v_act v_actA v_actB v_labelAt v_task v_taskA v_taskB v_held v_reg v_trailOf v_trailOld v_choiceSort v_choiceAct v_choicePlace v_choiceTrail v_seen v_found v_finds := by
    intro s0_34 f6 u34_0
    unfold w_X12_all_34
    have j_52 : ∀ (s0_52 : Int32), ((s0_52.toInt = s0_34.toInt) ∨ (s0_34.toInt = 0 ∧ 0 ≤ p1.toInt ∧ p1.toInt ≤ 5 ∧ 0 ≤ p2.toInt ∧ p2.toInt ≤ 3 ∧ 0 ≤ p3.toInt ∧ p3.toInt ≤ 2)) → 0 ≤ s0_52.toInt + 7 → s0_52.toInt ≤ 0 → (s0_52.toInt = 0 → (r8.toInt = 0 ∧ ((0 ≤ p1.toInt ∧ p1.toInt ≤ 5) ∧ (0 ≤ p2.toInt ∧ p2.toInt ≤ 3) ∧ (0 ≤ p3.toInt ∧ p3.toInt ≤ 2)) ∧ (1 ≤ p3.toInt → zKb v_sort (220 * p1.toInt) (zg v_many p1.toInt)) ∧ (1 ≤ p3.toInt → zg v_size (220 * p1.toInt) ≤ 200))) → w_X12_all_52 p1 p2 p3 v_sort v_value v_least v_most v_parts v_end v_firstPart v_inCase v_partBegin v_partEnd v_long0 v_signs Q s0_52 0 r8_0 v_outMany v_outNumbers v_acts v_labels v_tasks v_trail v_choices v_now v_spot v_slotNow v_textNow v_longNow v_steps v_limit v_isOver v_stamp v_isGoing v_findMany v_out v_act v_actA v_actB v_labelAt v_task v_taskA v_taskB v_held v_reg v_trailOf v_trailOld v_choiceSort v_choiceAct v_choicePlace v_choiceTrail v_seen v_found v_finds := by
      intro s0_52 f7 f8 f9 u52_0
      unfold w_X12_all_52
      have j_71 : ∀ (s0_71 : Int32) (v_acts_71 : Int32) (v_labels_71 : Int32) (v_tasks_71 : Int32) (v_trail_71 : Int32) (v_choices_71 : Int32) (v_now_71 : Int32) (v_spot_71 : Int32) (v_slotNow_71 : Int32) (v_textNow_71 : Int32) (v_longNow_71 : Int32) (v_steps_71 : Int32) (v_limit_71 : Int32) (v_isOver_71 : Bool) (v_stamp_71 : Int32) (v_isGoing_71 : Bool) (v_findMany_71 : Int32) (v_act_71 : Nat → Int32) (v_actA_71 : Nat → Int32) (v_actB_71 : Nat → Int32) (v_labelAt_71 : Nat → Int32) (v_task_71 : Nat → Int32) (v_taskA_71 : Nat → Int32) (v_taskB_71 : Nat → Int32) (v_held_71 : Nat → Int32) (v_reg_71 : Nat → Int32) (v_trailOf_71 : Nat → Int32) (v_trailOld_71 : Nat → Int32) (v_choiceSort_71 : Nat → Int32) (v_choiceAct_71 : Nat → Int32) (v_choicePlace_71 : Nat → Int32) (v_choiceTrail_71 : Nat → Int32) (v_seen_71 : Nat → Int32) (v_found_71 : Nat → Int32) (v_finds_71 : Nat → Int32), 0 ≤ s0_71.toInt + 8 → s0_71.toInt ≤ 0 → rp (fun k v => 0 ≤ v ∧ v ≤ 1129) v_trailOf_71 0 v_trail_71.toInt → rp (fun k v => 0 ≤ v ∧ v ≤ 1129) v_trailOf_71 (s0_71.toInt + 8) v_trail_71.toInt → (zGi v_isGoing_71 v_isThere v_long0 v_goSlot.toInt v_goSubject.toInt v_goFrom.toInt v_goSteps.toInt) → (s0_71.toInt = 0 → (0 ≤ v_findMany_71.toInt ∧ v_findMany_71.toInt ≤ 101)) → w_X12_all_71 Q s0_71 0 r8_0 v_outMany v_outNumbers v_acts_71 v_labels_71 v_tasks_71 v_trail_71 v_choices_71 v_now_71 v_spot_71 v_slotNow_71 v_textNow_71 v_longNow_71 v_steps_71 v_limit_71 v_isOver_71 v_stamp_71 v_isGoing_71 v_findMany_71 v_out v_act_71 v_actA_71 v_actB_71 v_labelAt_71 v_task_71 v_taskA_71 v_taskB_71 v_held_71 v_reg_71 v_trailOf_71 v_trailOld_71 v_choiceSort_71 v_choiceAct_71 v_choicePlace_71 v_choiceTrail_71 v_seen_71 v_found_71 v_finds_71 := by
        intro s0_71 v_acts_71 v_labels_71 v_tasks_71 v_trail_71 v_choices_71 v_now_71 v_spot_71 v_slotNow_71 v_textNow_71 v_longNow_71 v_steps_71 v_limit_71 v_isOver_71 v_stamp_71 v_isGoing_71 v_findMany_71 v_act_71 v_actA_71 v_actB_71 v_labelAt_71 v_task_71 v_taskA_71 v_taskB_71 v_held_71 v_reg_71 v_trailOf_71 v_trailOld_71 v_choiceSort_71 v_choiceAct_71 v_choicePlace_71 v_choiceTrail_71 v_seen_71 v_found_71 v_finds_71 f10 f11 h12 h13 u71_0 u71_1
        unfold w_X12_all_71
        refine ⟨fun c75 => ?_, fun c75 => ?_⟩
        · have f14 : s0_71.toInt = 0 := i_eq (a := s0_71.toInt) (b := 0) rfl rfl c75
          have h71 := u71_1 (by omega)
          have f15 : 0 ≤ v_findMany_71.toInt := by omega
          have f16 : v_findMany_71.toInt ≤ 101 := by omega
          intro x87 ex87
          have f17 : x87.toInt = 2 * v_findMany_71.toInt := i_mul (a := 2) (b := v_findMany_71.toInt) ex87 rfl rfl (by omega) (by omega)
          have j_99 : ∀ n_99 : Nat, ∀ (l5_99 : Int32) (v_out_99 : Nat → Int32), 0 ≤ l5_99.toInt → l5_99.toInt ≤ v_findMany_71.toInt → ((-1) * l5_99.toInt + 2147483648).toNat < n_99 → w_X12_all_99 Q 0 r8_0 x87 true v_acts_71 v_labels_71 v_tasks_71 v_trail_71 v_choices_71 v_now_71 v_spot_71 v_slotNow_71 v_textNow_71 v_longNow_71 v_steps_71 v_limit_71 v_isOver_71 v_stamp_71 v_isGoing_71 v_findMany_71 v_act_71 v_actA_71 v_actB_71 v_labelAt_71 v_task_71 v_taskA_71 v_taskB_71 v_held_71 v_reg_71 v_trailOf_71 v_trailOld_71 v_choiceSort_71 v_choiceAct_71 v_choicePlace_71 v_choiceTrail_71 v_seen_71 v_found_71 v_finds_71 n_99 l5_99 v_out_99 := by
            intro n_99
            induction n_99 with
            | zero =>
              intro l5_99 v_out_99 f18 f19 hm_99
              exfalso; omega
            | succ n_99 ih_99 =>
              intro l5_99 v_out_99 f18 f19 hm_99
              unfold w_X12_all_99
              unfold w_X12_all_99B
              refine ⟨fun c105 => ?_, fun c105 => ?_⟩
              · have f20 : v_findMany_71.toInt ≤ l5_99.toInt := i_le (a := v_findMany_71.toInt) (b := l5_99.toInt) rfl rfl c105
                exact hq v_findMany_71 0 r8_0 x87 true v_acts_71 v_labels_71 v_tasks_71 v_trail_71 v_choices_71 v_now_71 v_spot_71 v_slotNow_71 v_textNow_71 v_longNow_71 v_steps_71 v_limit_71 v_isOver_71 v_stamp_71 v_isGoing_71 v_findMany_71 v_out_99 v_act_71 v_actA_71 v_actB_71 v_labelAt_71 v_task_71 v_taskA_71 v_taskB_71 v_held_71 v_reg_71 v_trailOf_71 v_trailOld_71 v_choiceSort_71 v_choiceAct_71 v_choicePlace_71 v_choiceTrail_71 v_seen_71 v_found_71 v_finds_71 (by omega) (by omega) (by omega) (by omega) (by omega) (rp_mono h12 (by omega) (by omega)) (rp_mono h12 (by omega) (by omega)) (rp_mono h13 (by omega) (by omega)) (by exact u71_0)
              · have f21 : l5_99.toInt < v_findMany_71.toInt := i_nle (a := v_findMany_71.toInt) (b := l5_99.toInt) rfl rfl c105
                intro x115 ex115
                have f22 : x115.toInt = 2 * l5_99.toInt := i_mul (a := 2) (b := l5_99.toInt) ex115 rfl rfl (by omega) (by omega)
                intro x124 ex124
                have f23 : x124.toInt = 20 * l5_99.toInt := i_mul (a := 20) (b := l5_99.toInt) ex124 rfl rfl (by omega) (by omega)
                refine ⟨i_in (by omega) (by omega), ?_⟩
                intro x125 ex125
                refine ⟨i_in (by omega) (by omega), ?_⟩
                intro g126 eg126
                intro x134 ex134
                have f24 : x134.toInt = 2 * l5_99.toInt := i_mul (a := 2) (b := l5_99.toInt) ex134 rfl rfl (by omega) (by omega)
                intro x136 ex136
                have f25 : x136.toInt = x134.toInt + 1 := i_add (a := x134.toInt) (b := 1) ex136 rfl rfl (by omega) (by omega)
                intro x145 ex145
                have f26 : x145.toInt = 20 * l5_99.toInt := i_mul (a := 20) (b := l5_99.toInt) ex145 rfl rfl (by omega) (by omega)
                intro x147 ex147
                have f27 : x147.toInt = x145.toInt + 1 := i_add (a := x145.toInt) (b := 1) ex147 rfl rfl (by omega) (by omega)
                refine ⟨i_in (by omega) (by omega), ?_⟩
                intro x148 ex148
                refine ⟨i_in (by omega) (by omega), ?_⟩
                intro g149 eg149
                intro x150 ex150
                have f28 : x150.toInt = l5_99.toInt + 1 := i_add (a := l5_99.toInt) (b := 1) ex150 rfl rfl (by omega) (by omega)
                exact ih_99 x150 g149  (by omega) (by omega) (by have h8_0 := i_rng l5_99; have h8_1 := i_rng x150; omega)
          exact ⟨(2147483648 : Int).toNat + 1, j_99   ((2147483648 : Int).toNat + 1) 0 v_out  (by omega) (by omega) (by omega)⟩
        · have f29 : s0_71.toInt ≠ 0 := i_ne (a := s0_71.toInt) (b := 0) rfl rfl c75
          exact hq s0_71 0 r8_0 v_outMany v_outNumbers v_acts_71 v_labels_71 v_tasks_71 v_trail_71 v_choices_71 v_now_71 v_spot_71 v_slotNow_71 v_textNow_71 v_longNow_71 v_steps_71 v_limit_71 v_isOver_71 v_stamp_71 v_isGoing_71 v_findMany_71 v_out v_act_71 v_actA_71 v_actB_71 v_labelAt_71 v_task_71 v_taskA_71 v_taskB_71 v_held_71 v_reg_71 v_trailOf_71 v_trailOld_71 v_choiceSort_71 v_choiceAct_71 v_choicePlace_71 v_choiceTrail_71 v_seen_71 v_found_71 v_finds_71 (by omega) (by omega) (by omega) (by omega) (by omega) (rp_mono h12 (by omega) (by omega)) (rp_mono h12 (by omega) (by omega)) (rp_mono h13 (by omega) (by omega)) (by exact u71_0)
      refine ⟨fun c56 => ?_, fun c56 => ?_⟩
      · have f30 : s0_52.toInt ≠ 0 := i_ne (a := s0_52.toInt) (b := 0) rfl rfl c56
        exact j_71 s0_52 v_acts v_labels v_tasks v_trail v_choices v_now v_spot v_slotNow v_textNow v_longNow v_steps v_limit v_isOver v_stamp v_isGoing v_findMany v_act v_actA v_actB v_labelAt v_task v_taskA v_taskB v_held v_reg v_trailOf v_trailOld v_choiceSort v_choiceAct v_choicePlace v_choiceTrail v_seen v_found v_finds (by omega) (by omega) (rp_mono b2 (by omega) (by omega)) (rp_mono b2 (by omega) (by omega)) (by first | exact u1 | exact zGi_n (zbz0 (by omega))) (by first | exact fun z => absurd z (by omega) | exact fun _ => ⟨by omega, by omega⟩)
      · have f31 : s0_52.toInt = 0 := i_eq (a := s0_52.toInt) (b := 0) rfl rfl c56
        have h52 := u52_0 (by omega)
        have f32 : 0 ≤ p1.toInt := by omega
        have f33 : p1.toInt ≤ 5 := by omega
        have f34 : 0 ≤ p2.toInt := by omega
        have f35 : p2.toInt ≤ 3 := by omega
        have f36 : 0 ≤ p3.toInt := by omega
        have f37 : p3.toInt ≤ 2 := by omega
        have hSM := zAll_s u0 (u8_0 (by omega)) (by omega) (by omega)
        have hS := hSM.1
        have hM := hSM.2
        have f38 : 1 ≤ (zg v_many p1.toInt : Int) := (zS_n hS).1
        have f39 : (zg v_many p1.toInt : Int) ≤ 220 := (zS_n hS).2
        have f40 : 0 ≤ (zg v_captures p1.toInt : Int) := (zS_c hS).1
        have f41 : (zg v_captures p1.toInt : Int) ≤ 9 := (zS_c hS).2
        refine ok_X12_findAll (v_holder := v_holder) (v_many := v_many) (v_captures := v_captures) (v_size := v_size) (v_positions := v_positions) (by omega) (by omega) (by omega) (by omega) (by omega) (by omega) (rp_mono b0 (by omega) (by omega)) (rp_mono b1 (by omega) (by omega)) (rp_mono b2 (by omega) (by omega)) (by exact hS) (by exact hM) (by exact h52.2.2.1) (by exact h52.2.2.2) (fun r63 r63_0 r63_1 r63_2 r63_3 r63_4 r63_5 r63_6 r63_7 r63_8 r63_9 r63_10 r63_11 r63_12 r63_13 r63_14 r63_15 r63_16 r63_17 r63_18 r63_19 r63_20 r63_21 r63_22 r63_23 r63_24 r63_25 r63_26 r63_27 r63_28 r63_29 r63_30 r63_31 r63_32 r63_33 f42 f43 f44 f45 f46 f47 f48 f49 f50 f51 f52 f53 f54 f55 f56 f57 f58 f59 f60 h61 h62 h63 u63_0 => ?_)
        exact j_71 r63 r63_0 r63_1 r63_2 r63_3 r63_4 r63_5 r63_6 r63_7 r63_8 r63_9 r63_10 r63_11 r63_12 r63_13 r63_14 r63_15 r63_16 r63_17 r63_18 r63_19 r63_20 r63_21 r63_22 r63_23 r63_24 r63_25 r63_26 r63_27 r63_28 r63_29 r63_30 r63_31 r63_32 r63_33 (by omega) (by omega) (rp_mono h61 (by omega) (by omega)) (rp_mono h62 (by omega) (by omega)) (by first | exact u1 | exact zGi_n (zbz0 (by omega))) (by first | exact fun z => absurd z (by omega) | exact fun _ => ⟨by omega, by omega⟩)
    refine ⟨fun c38 => ?_, fun c38 => ?_⟩
    · have f64 : s0_34.toInt ≠ 0 := i_ne (a := s0_34.toInt) (b := 0) rfl rfl c38
      exact j_52 s0_34 (by omega) (by omega) (by omega) (by first | exact fun z => absurd z (by omega) | exact fun z => ⟨h34.1, h34.2, u44_0 z, (u44_1 z).1⟩)
    · have f65 : s0_34.toInt = 0 := i_eq (a := s0_34.toInt) (b := 0) rfl rfl c38
      have h34 := u34_0 (by omega)
      have f66 : 0 ≤ p1.toInt := by omega
      have f67 : p1.toInt ≤ 5 := by omega
      have f68 : 0 ≤ p2.toInt := by omega
      have f69 : p2.toInt ≤ 3 := by omega
      have f70 : 0 ≤ p3.toInt := by omega
      have f71 : p3.toInt ≤ 2 := by omega
      have hSM := zAll_s u0 (u8_0 (by omega)) (by omega) (by omega)
      have hS := hSM.1
      have hM := hSM.2
      have f72 : 1 ≤ (zg v_many p1.toInt : Int) := (zS_n hS).1
      have f73 : (zg v_many p1.toInt : Int) ≤ 220 := (zS_n hS).2
      have f74 : 0 ≤ (zg v_captures p1.toInt : Int) := (zS_c hS).1
      have f75 : (zg v_captures p1.toInt : Int) ≤ 9 := (zS_c hS).2
      refine ok_X12_bars (v_holder := v_holder) (v_parts := v_parts) (v_end := v_end) (v_firstPart := v_firstPart) (v_partBegin := v_partBegin) (v_partEnd := v_partEnd) (v_captures := v_captures) (by omega) (by omega) (by exact hS) (fun r44 f76 u44_0 u44_1 => ?_)
      exact j_52 r44 (by omega) (by omega) (by omega) (by first | exact fun z => absurd z (by omega) | exact fun z => ⟨h34.1, h34.2, u44_0 z, (u44_1 z).1⟩)
  have j_32 : (r8.toInt = 0 → ((0 ≤ p1.toInt ∧ p1.toInt ≤ 5) ∧ (0 ≤ p2.toInt ∧ p2.toInt ≤ 3) ∧ (0 ≤ p3.toInt ∧ p3.toInt ≤ 2))) → w_X12_all_32 p1 p2 p3 v_many v_sort v_value v_least v_most v_parts v_end v_size v_positions v_firstPart v_mayEmpty v_inCase v_partBegin v_partEnd v_long0 v_signs Q r8 0 r8_0 v_outMany v_outNumbers v_acts v_labels v_tasks v_trail v_choices v_now v_spot v_slotNow v_textNow v_longNow v_steps v_limit v_isOver v_stamp v_isGoing v_findMany v_out v_act v_actA v_actB v_labelAt v_task v_taskA v_taskB v_held v_reg v_trailOf v_trailOld v_choiceSort v_choiceAct v_choicePlace v_choiceTrail v_seen v_found v_finds := by
    intro u32_0
    unfold w_X12_all_32
    exact j_34 r8 (by omega) (by first | exact fun z => absurd z (by decide) | exact fun z => ⟨z, u32_0 z⟩)
  refine ⟨fun c15 => ?_, fun c15 => ?_⟩
  · have f77 : r8.toInt ≠ 0 := i_ne (a := r8.toInt) (b := 0) rfl rfl c15
    exact j_32  (by first | exact fun z => absurd z (by omega) | exact fun _ => ⟨by omega, by omega, by omega⟩)
  · have f78 : r8.toInt = 0 := i_eq (a := r8.toInt) (b := 0) rfl rfl c15
    refine ok_X12_in  (fun r21 f79 f80 f81 f82 f83 f84 => ?_)
    refine ⟨fun c24 => ?_, fun c24 => ?_⟩
    · have f85 : r21.toInt ≠ 0 := i_ne (a := r21.toInt) (b := 0) rfl rfl c24
      exact j_32  (by first | exact fun z => absurd z (by omega) | exact fun _ => ⟨by omega, by omega, by omega⟩)
    · have f86 : r21.toInt = 0 := i_eq (a := r21.toInt) (b := 0) rfl rfl c24
      exact j_34 (-4) (by omega) (by first | exact fun z => absurd z (by decide) | exact fun z => ⟨z, u32_0 z⟩)
