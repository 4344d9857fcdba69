set_option maxHeartbeats 4000000 in
theorem ok_X12_later {p1 : Int32} {p2 : Int32} {p3 : Int32} {v_tasks : Int32} {v_task : Nat → Int32} {v_taskA : Nat → Int32} {v_taskB : Nat → Int32} {Q : Int32 → (Nat → Int32) → (Nat → Int32) → (Nat → Int32) → Prop} (a0 : 0 ≤ v_tasks.toInt) (a1 : v_tasks.toInt ≤ 5999) (hq : ∀ (ov_tasks : Int32) (ov_task : Nat → Int32) (ov_taskA : Nat → Int32) (ov_taskB : Nat → Int32), ov_tasks.toInt = v_tasks.toInt + 1 → (ov_task = upd v_task v_tasks.toNatClampNeg p1) → (ov_taskA = upd v_taskA v_tasks.toNatClampNeg p2) → (ov_taskB = upd v_taskB v_tasks.toNatClampNeg p3) → Q ov_tasks ov_task ov_taskA ov_taskB) : w_X12_later p1 p2 p3 v_tasks v_task v_taskA v_taskB Q := by
  have q_t : (bz true).toInt = 1 := rfl
  have q_f : (bz false).toInt = 0 := rfl
  unfold w_X12_later
  refine ⟨i_in (by omega) (by omega), ?_⟩
  intro g9 eg9
  refine ⟨i_in (by omega) (by omega), ?_⟩
  intro g19 eg19
  refine ⟨i_in (by omega) (by omega), ?_⟩
  intro g29 eg29
  intro x36 ex36
  have f1 : x36.toInt = v_tasks.toInt + 1 := i_add (a := v_tasks.toInt) (b := 1) ex36 rfl rfl (by omega) (by omega)
  exact hq x36 g9 g19 g29 (by omega) (by assumption) (by assumption) (by assumption)
set_option maxHeartbeats 4000000 in
theorem ok_X12_newLabel {v_labels : Int32} {Q : Int32 → Int32 → Prop} (a0 : 0 ≤ v_labels.toInt) (a1 : v_labels.toInt ≤ 2999) (hq : ∀ (r : Int32) (ov_labels : Int32), ov_labels.toInt = v_labels.toInt + 1 → r.toInt + 1 = ov_labels.toInt → Q r ov_labels) : w_X12_newLabel v_labels Q := by
  have q_t : (bz true).toInt = 1 := rfl
  have q_f : (bz false).toInt = 0 := rfl
  unfold w_X12_newLabel
  intro x6 ex6
  have f1 : x6.toInt = v_labels.toInt + 1 := i_add (a := v_labels.toInt) (b := 1) ex6 rfl rfl (by omega) (by omega)
  intro x15 ex15
  have f2 : x15.toInt = x6.toInt - 1 := i_sub (a := x6.toInt) (b := 1) ex15 rfl rfl (by omega) (by omega)
  exact hq x15 x6 (by omega) (by omega)
set_option maxHeartbeats 4000000 in
theorem ok_X12_choose {p1 : Int32} {p2 : Int32} {p3 : Int32} {v_trail : Int32} {v_choices : Int32} {v_choiceSort : Nat → Int32} {v_choiceAct : Nat → Int32} {v_choicePlace : Nat → Int32} {v_choiceTrail : Nat → Int32} {Q : Int32 → (Nat → Int32) → (Nat → Int32) → (Nat → Int32) → (Nat → Int32) → Prop} (a0 : 0 ≤ v_choices.toInt) (a1 : v_choices.toInt ≤ 199999) (hq : ∀ (ov_choices : Int32) (ov_choiceSort : Nat → Int32) (ov_choiceAct : Nat → Int32) (ov_choicePlace : Nat → Int32) (ov_choiceTrail : Nat → Int32), ov_choices.toInt = v_choices.toInt + 1 → (ov_choiceSort = upd v_choiceSort v_choices.toNatClampNeg p1) → (ov_choiceAct = upd v_choiceAct v_choices.toNatClampNeg p2) → (ov_choicePlace = upd v_choicePlace v_choices.toNatClampNeg p3) → (ov_choiceTrail = upd v_choiceTrail v_choices.toNatClampNeg v_trail) → Q ov_choices ov_choiceSort ov_choiceAct ov_choicePlace ov_choiceTrail) : w_X12_choose p1 p2 p3 v_trail v_choices v_choiceSort v_choiceAct v_choicePlace v_choiceTrail Q := by
  have q_t : (bz true).toInt = 1 := rfl
  have q_f : (bz false).toInt = 0 := rfl
  unfold w_X12_choose
  refine ⟨i_in (by omega) (by omega), ?_⟩
  intro g9 eg9
  refine ⟨i_in (by omega) (by omega), ?_⟩
  intro g19 eg19
  refine ⟨i_in (by omega) (by omega), ?_⟩
  intro g29 eg29
  refine ⟨i_in (by omega) (by omega), ?_⟩
  intro g42 eg42
  intro x49 ex49
  have f1 : x49.toInt = v_choices.toInt + 1 := i_add (a := v_choices.toInt) (b := 1) ex49 rfl rfl (by omega) (by omega)
  exact hq x49 g9 g19 g29 g42 (by omega) (by assumption) (by assumption) (by assumption) (by assumption)
set_option maxHeartbeats 4000000 in
theorem ok_X12_set {p1 : Int32} {p2 : Int32} {v_trail : Int32} {v_reg : Nat → Int32} {v_trailOf : Nat → Int32} {v_trailOld : Nat → Int32} {Q : Int32 → (Nat → Int32) → (Nat → Int32) → (Nat → Int32) → Prop} (a0 : 0 ≤ p1.toInt) (a1 : p1.toInt ≤ 1129) (a2 : 0 ≤ v_trail.toInt) (a3 : v_trail.toInt ≤ 119999) (b0 : rp (fun k v => 0 ≤ v ∧ v ≤ 1129) v_trailOf 0 v_trail.toInt) (hq : ∀ (ov_trail : Int32) (ov_reg : Nat → Int32) (ov_trailOf : Nat → Int32) (ov_trailOld : Nat → Int32), v_trail.toInt ≤ ov_trail.toInt → ov_trail.toInt ≤ v_trail.toInt + 1 → ((ov_trail.toInt = v_trail.toInt) ∨ (ov_trail.toInt = v_trail.toInt + 1)) → rp (fun k v => 0 ≤ v ∧ v ≤ 1129) ov_trailOf 0 v_trail.toInt → rp (fun k v => 0 ≤ v ∧ v ≤ 1129) ov_trailOf 0 ov_trail.toInt → (zST v_reg v_trailOf v_trailOld ov_reg ov_trailOf ov_trailOld v_trail.toInt ov_trail.toInt p1 p2) → Q ov_trail ov_reg ov_trailOf ov_trailOld) : w_X12_set p1 p2 v_trail v_reg v_trailOf v_trailOld Q := by
  have q_t : (bz true).toInt = 1 := rfl
  have q_f : (bz false).toInt = 0 := rfl
  unfold w_X12_set
  refine ⟨i_in (by omega) (by omega), ?_⟩
  intro x5 ex5
  have j_52 : ∀ (v_trail_52 : Int32) (v_reg_52 : Nat → Int32) (v_trailOf_52 : Nat → Int32) (v_trailOld_52 : Nat → Int32), v_trail.toInt ≤ v_trail_52.toInt → v_trail_52.toInt ≤ v_trail.toInt + 1 → ((v_trail_52.toInt = v_trail.toInt) ∨ (v_trail_52.toInt = v_trail.toInt + 1)) → rp (fun k v => 0 ≤ v ∧ v ≤ 1129) v_trailOf_52 0 v_trail.toInt → rp (fun k v => 0 ≤ v ∧ v ≤ 1129) v_trailOf_52 0 v_trail_52.toInt → (zST v_reg v_trailOf v_trailOld v_reg_52 v_trailOf_52 v_trailOld_52 v_trail.toInt v_trail_52.toInt p1 p2) → w_X12_set_52 Q v_trail_52 v_reg_52 v_trailOf_52 v_trailOld_52 := by
    intro v_trail_52 v_reg_52 v_trailOf_52 v_trailOld_52 f1 f2 f3 h4 h5 u52_0
    unfold w_X12_set_52
    exact hq v_trail_52 v_reg_52 v_trailOf_52 v_trailOld_52 (by omega) (by omega) (by omega) (rp_mono h5 (by omega) (by omega)) (rp_mono h5 (by omega) (by omega)) (by assumption)
  refine ⟨fun c7 => ?_, fun c7 => ?_⟩
  · have f6 : x5.toInt = p2.toInt := i_eq (a := x5.toInt) (b := p2.toInt) rfl rfl c7
    exact j_52 v_trail v_reg v_trailOf v_trailOld (by omega) (by omega) (by omega) (rp_mono b0 (by omega) (by omega)) (rp_mono b0 (by omega) (by omega)) (by first | exact zST_a ex5 (by omega) | exact zST_b ex5 ex33 eg19 eg34 eg51 (by omega) (by omega) (by omega))
  · have f7 : x5.toInt ≠ p2.toInt := i_ne (a := x5.toInt) (b := p2.toInt) rfl rfl c7
    refine ⟨i_in (by omega) (by omega), ?_⟩
    intro g19 eg19
    have h8 : rp (fun k v => 0 ≤ v ∧ v ≤ 1129) g19 0 (v_trail.toInt + 1) := rp_ext (P := (fun k v => 0 ≤ v ∧ v ≤ 1129)) (a := v_trail.toInt) (b := p1.toInt) b0 eg19 rfl rfl (by omega) (by omega) ⟨(by omega), (by omega)⟩
    refine ⟨i_in (by omega) (by omega), ?_⟩
    intro x33 ex33
    have f9 : x33.toInt = x5.toInt := congrArg Int32.toInt (ex33.trans ex5.symm)
    refine ⟨i_in (by omega) (by omega), ?_⟩
    intro g34 eg34
    intro x41 ex41
    have f10 : x41.toInt = v_trail.toInt + 1 := i_add (a := v_trail.toInt) (b := 1) ex41 rfl rfl (by omega) (by omega)
    refine ⟨i_in (by omega) (by omega), ?_⟩
    intro g51 eg51
    exact j_52 x41 g51 g19 g34 (by omega) (by omega) (by omega) (rp_mono h8 (by omega) (by omega)) (rp_mono h8 (by omega) (by omega)) (by first | exact zST_a ex5 (by omega) | exact zST_b ex5 ex33 eg19 eg34 eg51 (by omega) (by omega) (by omega))
set_option maxHeartbeats 4000000 in
theorem ok_X12_isStep {v_steps : Int32} {v_limit : Int32} {v_isOver : Bool} {Q : Int32 → Int32 → Bool → Prop} (a0 : 0 ≤ v_steps.toInt) (a1 : v_steps.toInt ≤ 2147483646) (a2 : v_steps.toInt ≤ v_limit.toInt) (hq : ∀ (r : Int32) (ov_steps : Int32) (ov_isOver : Bool), 0 ≤ (bz ov_isOver).toInt → (bz ov_isOver).toInt ≤ 1 → (((bz ov_isOver).toInt = 1) ∨ (v_steps.toInt + 1 ≤ v_limit.toInt)) → (((bz ov_isOver).toInt = 0) ∨ ((bz ov_isOver).toInt = 1 ∧ v_steps.toInt = v_limit.toInt)) → v_steps.toInt ≤ ov_steps.toInt → ov_steps.toInt ≤ v_steps.toInt + 1 → ((ov_steps.toInt = v_steps.toInt + 1) ∨ ((bz ov_isOver).toInt = 1)) → ((ov_steps.toInt = v_steps.toInt) ∨ ((bz ov_isOver).toInt = 0)) → ((ov_steps.toInt = v_steps.toInt + 1 ∧ (bz ov_isOver).toInt = 0) ∨ (ov_steps.toInt = v_steps.toInt)) → 0 ≤ r.toInt → r.toInt ≤ 1 → ((r.toInt = 0) ∨ (ov_steps.toInt = v_steps.toInt + 1)) → ((r.toInt = 1) ∨ (ov_steps.toInt = v_steps.toInt)) → ((r.toInt = 0) ∨ (r.toInt = 1 ∧ (bz ov_isOver).toInt = 0)) → Q r ov_steps ov_isOver) : w_X12_isStep v_steps v_limit v_isOver Q := by
  have q_t : (bz true).toInt = 1 := rfl
  have q_f : (bz false).toInt = 0 := rfl
  have q_0 : (0 : Int32).toInt = 0 := rfl
  have q_1 : (1 : Int32).toInt = 1 := rfl
  unfold w_X12_isStep
  have j_17 : ∀ (s0_17 : Int32), 0 ≤ s0_17.toInt → s0_17.toInt ≤ 1 → ((s0_17.toInt = 1) ∨ (v_steps.toInt + 1 ≤ v_limit.toInt)) → ((s0_17.toInt = 0) ∨ (s0_17.toInt = 1 ∧ v_steps.toInt = v_limit.toInt)) → w_X12_isStep_17 Q s0_17 v_steps v_isOver := by
    intro s0_17 f1 f2 f3 f4
    unfold w_X12_isStep_17
    refine ⟨i_01 (by omega) (by omega), ?_⟩
    intro b17 eb17
    have f5 : (bz b17).toInt = s0_17.toInt := by rw [← eb17]
    have j_37 : ∀ (s0_37 : Int32), 0 ≤ s0_37.toInt → s0_37.toInt ≤ 1 → ((s0_37.toInt = 1) ∨ ((bz b17).toInt = 1)) → ((s0_37.toInt = 0) ∨ ((bz b17).toInt = 0)) → ((s0_37.toInt = 1 ∧ (bz b17).toInt = 0) ∨ (s0_37.toInt = 0)) → w_X12_isStep_37 Q s0_37 v_steps v_steps b17 := by
      intro s0_37 f6 f7 f8 f9 f10
      unfold w_X12_isStep_37
      intro x37 ex37
      have f11 : x37.toInt = v_steps.toInt + s0_37.toInt := i_add (a := v_steps.toInt) (b := s0_37.toInt) ex37 rfl rfl (by omega) (by omega)
      have j_53 : ∀ (s0_53 : Int32), 0 ≤ s0_53.toInt → s0_53.toInt ≤ 1 → ((s0_53.toInt = 0) ∨ (x37.toInt = v_steps.toInt + 1)) → ((s0_53.toInt = 1) ∨ (x37.toInt = v_steps.toInt)) → ((s0_53.toInt = 0) ∨ (s0_53.toInt = 1 ∧ (bz b17).toInt = 0)) → w_X12_isStep_53 Q s0_53 x37 b17 := by
        intro s0_53 f12 f13 f14 f15 f16
        unfold w_X12_isStep_53
        refine ⟨i_01 (by omega) (by omega), ?_⟩
        exact hq s0_53 x37 b17 (by omega) (by omega) (by omega) (by omega) (by omega) (by omega) (by omega) (by omega) (by omega) (by omega) (by omega) (by omega) (by omega) (by omega)
      refine ⟨fun c45 => ?_, fun c45 => ?_⟩
      · have f17 : (bz b17).toInt ≠ 0 := i_ne (a := (bz b17).toInt) (b := 0) rfl rfl c45
        exact j_53 0 (by omega) (by omega) (by omega) (by omega) (by omega)
      · have f18 : (bz b17).toInt = 0 := i_eq (a := (bz b17).toInt) (b := 0) rfl rfl c45
        exact j_53 1 (by omega) (by omega) (by omega) (by omega) (by omega)
    refine ⟨fun c29 => ?_, fun c29 => ?_⟩
    · have f19 : (bz b17).toInt = 0 := i_eq (a := (bz b17).toInt) (b := 0) rfl rfl c29
      exact j_37 1 (by omega) (by omega) (by omega) (by omega) (by omega)
    · have f20 : (bz b17).toInt ≠ 0 := i_ne (a := (bz b17).toInt) (b := 0) rfl rfl c29
      exact j_37 0 (by omega) (by omega) (by omega) (by omega) (by omega)
  refine ⟨fun c9 => ?_, fun c9 => ?_⟩
  · have f21 : v_steps.toInt ≠ v_limit.toInt := i_ne (a := v_steps.toInt) (b := v_limit.toInt) rfl rfl c9
    exact j_17 0 (by omega) (by omega) (by omega) (by omega)
  · have f22 : v_steps.toInt = v_limit.toInt := i_eq (a := v_steps.toInt) (b := v_limit.toInt) rfl rfl c9
    exact j_17 1 (by omega) (by omega) (by omega) (by omega)
set_option maxHeartbeats 4000000 in
theorem ok_X12_signOf {p1 : Int32} {v_textNow : Int32} {v_signs : Nat → Int32} {Q : Int32 → Prop} (a0 : 0 ≤ v_textNow.toInt) (a1 : v_textNow.toInt ≤ 300) (a2 : 0 ≤ p1.toInt) (a3 : p1.toInt ≤ 99) (b0 : rp (fun k v => 0 ≤ v ∧ v ≤ 65535) v_signs 0 400) (hq : ∀ (r : Int32), 0 ≤ r.toInt → r.toInt ≤ 65535 → Q r) : w_X12_signOf p1 v_textNow v_signs Q := by
  have q_t : (bz true).toInt = 1 := rfl
  have q_f : (bz false).toInt = 0 := rfl
  unfold w_X12_signOf
  intro x9 ex9
  have f1 : x9.toInt = v_textNow.toInt + p1.toInt := i_add (a := v_textNow.toInt) (b := p1.toInt) ex9 rfl rfl (by omega) (by omega)
  refine ⟨i_in (by omega) (by omega), ?_⟩
  intro x10 ex10
  have f2 : 0 ≤ x10.toInt ∧ x10.toInt ≤ 65535 := by have h9 := rp_get (P := (fun k v => 0 ≤ v ∧ v ≤ 65535)) (a := x9.toInt) b0 ex10 rfl (by omega) (by omega) (by omega); omega
  exact hq x10 (by omega) (by omega)
set_option maxHeartbeats 4000000 in
theorem ok_X12_isWord {p0 : Int32} {Q : Int32 → Prop} (hq : ∀ (r : Int32), 0 ≤ r.toInt → r.toInt ≤ 1 → Q r) : w_X12_isWord p0 Q := by
  have q_t : (bz true).toInt = 1 := rfl
  have q_f : (bz false).toInt = 0 := rfl
  have q_0 : (0 : Int32).toInt = 0 := rfl
  have q_1 : (1 : Int32).toInt = 1 := rfl
  unfold w_X12_isWord
  refine ok_X12_isLetter  (fun r1 f1 f2 f3 f4 => ?_)
  have j_25 : ∀ (s0_25 : Int32), 0 ≤ s0_25.toInt → s0_25.toInt ≤ 1 → ((s0_25.toInt = 0 ∧ r1.toInt = 0) ∨ (s0_25.toInt = 1)) → w_X12_isWord_25 Q s0_25 := by
    intro s0_25 f5 f6 f7
    unfold w_X12_isWord_25
    refine ⟨i_01 (by omega) (by omega), ?_⟩
    exact hq s0_25 (by omega) (by omega)
  have j_20 : w_X12_isWord_20 Q := by
    unfold w_X12_isWord_20
    exact j_25 1 (by omega) (by omega) (by omega)
  refine ⟨fun c4 => ?_, fun c4 => ?_⟩
  · have f8 : r1.toInt ≠ 0 := i_ne (a := r1.toInt) (b := 0) rfl rfl c4
    exact j_20  
  · have f9 : r1.toInt = 0 := i_eq (a := r1.toInt) (b := 0) rfl rfl c4
    refine ok_X12_isDigit  (fun r8 f10 f11 f12 f13 f14 f15 => ?_)
    refine ⟨fun c11 => ?_, fun c11 => ?_⟩
    · have f16 : r8.toInt ≠ 0 := i_ne (a := r8.toInt) (b := 0) rfl rfl c11
      exact j_20  
    · have f17 : r8.toInt = 0 := i_eq (a := r8.toInt) (b := 0) rfl rfl c11
      refine ⟨fun c17 => ?_, fun c17 => ?_⟩
      · have f18 : p0.toInt ≠ 95 := i_ne (a := p0.toInt) (b := 95) rfl rfl c17
        exact j_25 0 (by omega) (by omega) (by omega)
      · have f19 : p0.toInt = 95 := i_eq (a := p0.toInt) (b := 95) rfl rfl c17
        exact j_20  
set_option maxHeartbeats 4000000 in
theorem ok_X12_isWordAt {p1 : Int32} {v_textNow : Int32} {v_longNow : Int32} {v_signs : Nat → Int32} {Q : Int32 → Prop} (a0 : 0 ≤ v_textNow.toInt) (a1 : v_textNow.toInt ≤ 300) (a2 : 0 ≤ v_longNow.toInt) (a3 : v_longNow.toInt ≤ 100) (b0 : rp (fun k v => 0 ≤ v ∧ v ≤ 65535) v_signs 0 400) (hq : ∀ (r : Int32), 0 ≤ r.toInt → r.toInt ≤ 1 → ((r.toInt = 1) ∨ (r.toInt = 0)) → Q r) : w_X12_isWordAt p1 v_textNow v_longNow v_signs Q := by
  have q_t : (bz true).toInt = 1 := rfl
  have q_f : (bz false).toInt = 0 := rfl
  have q_0 : (0 : Int32).toInt = 0 := rfl
  have q_1 : (1 : Int32).toInt = 1 := rfl
  unfold w_X12_isWordAt
  intro x7 ex7
  have f1 : x7.toInt = v_longNow.toInt - 1 := i_sub (a := v_longNow.toInt) (b := 1) ex7 rfl rfl (by omega) (by omega)
  refine ok_X12_in  (fun r8 f2 f3 f4 f5 f6 f7 => ?_)
  have j_30 : ∀ (s0_30 : Int32), 0 ≤ s0_30.toInt → s0_30.toInt ≤ 1 → ((s0_30.toInt = 1) ∨ (s0_30.toInt = 0)) → w_X12_isWordAt_30 Q s0_30 := by
    intro s0_30 f8 f9 f10
    unfold w_X12_isWordAt_30
    refine ⟨i_01 (by omega) (by omega), ?_⟩
    exact hq s0_30 (by omega) (by omega) (by omega)
  have j_29 : w_X12_isWordAt_29 Q := by
    unfold w_X12_isWordAt_29
    exact j_30 0 (by omega) (by omega) (by omega)
  refine ⟨fun c11 => ?_, fun c11 => ?_⟩
  · have f11 : r8.toInt = 0 := i_eq (a := r8.toInt) (b := 0) rfl rfl c11
    exact j_29  
  · have f12 : r8.toInt ≠ 0 := i_ne (a := r8.toInt) (b := 0) rfl rfl c11
    refine ok_X12_signOf (by omega) (by omega) (by omega) (by omega) (rp_mono b0 (by omega) (by omega)) (fun r16 f13 f14 => ?_)
    refine ok_X12_isWord  (fun r19 f15 f16 => ?_)
    refine ⟨fun c22 => ?_, fun c22 => ?_⟩
    · have f17 : r19.toInt = 0 := i_eq (a := r19.toInt) (b := 0) rfl rfl c22
      exact j_29  
    · have f18 : r19.toInt ≠ 0 := i_ne (a := r19.toInt) (b := 0) rfl rfl c22
      exact j_30 1 (by omega) (by omega) (by omega)
set_option maxHeartbeats 4000000 in
theorem ok_X12_isEdge {p1 : Int32} {v_spot : Int32} {v_textNow : Int32} {v_longNow : Int32} {v_value : Nat → Int32} {v_signs : Nat → Int32} {Q : Int32 → Prop} (a0 : 0 ≤ v_textNow.toInt) (a1 : v_textNow.toInt ≤ 300) (a2 : 0 ≤ v_longNow.toInt) (a3 : v_longNow.toInt ≤ 100) (a4 : 0 ≤ v_spot.toInt) (a5 : v_spot.toInt ≤ 100) (a6 : 0 ≤ p1.toInt) (a7 : p1.toInt ≤ 1319) (b0 : rp (fun k v => 0 ≤ v ∧ v ≤ 65535) v_signs 0 400) (hq : ∀ (r : Int32), 0 ≤ r.toInt → r.toInt ≤ 1 → Q r) : w_X12_isEdge p1 v_spot v_textNow v_longNow v_value v_signs Q := by
  have q_t : (bz true).toInt = 1 := rfl
  have q_f : (bz false).toInt = 0 := rfl
  have q_0 : (0 : Int32).toInt = 0 := rfl
  have q_1 : (1 : Int32).toInt = 1 := rfl
  unfold w_X12_isEdge
  refine ⟨i_in (by omega) (by omega), ?_⟩
  intro x5 ex5
  refine ⟨fun c9 => ?_, fun c9 => ?_⟩
  · have f1 : 2 ≤ x5.toInt := i_le (a := 2) (b := x5.toInt) rfl rfl c9
    intro x43 ex43
    have f2 : x43.toInt = v_spot.toInt - 1 := i_sub (a := v_spot.toInt) (b := 1) ex43 rfl rfl (by omega) (by omega)
    refine ok_X12_isWordAt (by omega) (by omega) (by omega) (by omega) (rp_mono b0 (by omega) (by omega)) (fun r44 f3 f4 f5 => ?_)
    refine ok_X12_isWordAt (by omega) (by omega) (by omega) (by omega) (rp_mono b0 (by omega) (by omega)) (fun r52 f6 f7 f8 => ?_)
    have j_63 : ∀ (s0_63 : Int32), 0 ≤ s0_63.toInt → s0_63.toInt ≤ 1 → ((s0_63.toInt = 0 ∧ r44.toInt = r52.toInt) ∨ (s0_63.toInt = 1)) → w_X12_isEdge_63 Q s0_63 x5 := by
      intro s0_63 f9 f10 f11
      unfold w_X12_isEdge_63
      have j_73 : ∀ (s0_73 : Int32), 0 ≤ s0_73.toInt → s0_73.toInt ≤ 1 → ((s0_73.toInt = 0) ∨ (s0_73.toInt = 1 ∧ x5.toInt = 2)) → w_X12_isEdge_73 Q s0_73 s0_63 := by
        intro s0_73 f12 f13 f14
        unfold w_X12_isEdge_73
        have j_81 : ∀ (s0_81 : Int32), 0 ≤ s0_81.toInt → s0_81.toInt ≤ 1 → ((s0_81.toInt = 0) ∨ (s0_81.toInt = 1 ∧ s0_63.toInt = s0_73.toInt)) → w_X12_isEdge_81 Q s0_81 := by
          intro s0_81 f15 f16 f17
          unfold w_X12_isEdge_81
          refine ⟨i_01 (by omega) (by omega), ?_⟩
          exact hq s0_81 (by omega) (by omega)
        refine ⟨fun c73 => ?_, fun c73 => ?_⟩
        · have f18 : s0_63.toInt ≠ s0_73.toInt := i_ne (a := s0_63.toInt) (b := s0_73.toInt) rfl rfl c73
          exact j_81 0 (by omega) (by omega) (by omega)
        · have f19 : s0_63.toInt = s0_73.toInt := i_eq (a := s0_63.toInt) (b := s0_73.toInt) rfl rfl c73
          exact j_81 1 (by omega) (by omega) (by omega)
      refine ⟨fun c65 => ?_, fun c65 => ?_⟩
      · have f20 : x5.toInt ≠ 2 := i_ne (a := x5.toInt) (b := 2) rfl rfl c65
        exact j_73 0 (by omega) (by omega) (by omega)
      · have f21 : x5.toInt = 2 := i_eq (a := x5.toInt) (b := 2) rfl rfl c65
        exact j_73 1 (by omega) (by omega) (by omega)
    refine ⟨fun c55 => ?_, fun c55 => ?_⟩
    · have f22 : r44.toInt = r52.toInt := i_eq (a := r44.toInt) (b := r52.toInt) rfl rfl c55
      exact j_63 0 (by omega) (by omega) (by omega)
    · have f23 : r44.toInt ≠ r52.toInt := i_ne (a := r44.toInt) (b := r52.toInt) rfl rfl c55
      exact j_63 1 (by omega) (by omega) (by omega)
  · have f24 : x5.toInt < 2 := i_nle (a := 2) (b := x5.toInt) rfl rfl c9
    have j_28 : ∀ (s0_28 : Int32), s0_28.toInt ≤ v_longNow.toInt → 0 ≤ s0_28.toInt → ((s0_28.toInt = v_longNow.toInt) ∨ (s0_28.toInt = 0 ∧ x5.toInt = 0)) → w_X12_isEdge_28 Q s0_28 v_spot := by
      intro s0_28 f25 f26 f27
      unfold w_X12_isEdge_28
      have j_36 : ∀ (s0_36 : Int32), 0 ≤ s0_36.toInt → s0_36.toInt ≤ 1 → ((s0_36.toInt = 0) ∨ (s0_36.toInt = 1 ∧ v_spot.toInt = s0_28.toInt)) → w_X12_isEdge_36 Q s0_36 := by
        intro s0_36 f28 f29 f30
        unfold w_X12_isEdge_36
        refine ⟨i_01 (by omega) (by omega), ?_⟩
        exact hq s0_36 (by omega) (by omega)
      refine ⟨fun c28 => ?_, fun c28 => ?_⟩
      · have f31 : v_spot.toInt ≠ s0_28.toInt := i_ne (a := v_spot.toInt) (b := s0_28.toInt) rfl rfl c28
        exact j_36 0 (by omega) (by omega) (by omega)
      · have f32 : v_spot.toInt = s0_28.toInt := i_eq (a := v_spot.toInt) (b := s0_28.toInt) rfl rfl c28
        exact j_36 1 (by omega) (by omega) (by omega)
    refine ⟨fun c17 => ?_, fun c17 => ?_⟩
    · have f33 : x5.toInt ≠ 0 := i_ne (a := x5.toInt) (b := 0) rfl rfl c17
      exact j_28 v_longNow (by omega) (by omega) (by omega)
    · have f34 : x5.toInt = 0 := i_eq (a := x5.toInt) (b := 0) rfl rfl c17
      exact j_28 0 (by omega) (by omega) (by omega)
set_option maxHeartbeats 4000000 in
theorem ok_X12_isAlike {p1 : Int32} {p2 : Int32} {v_classes : Nat → Int32} {v_leads : Nat → Int32} {v_group : Nat → Int32} {v_states : Nat → Int32} {v_classOf : Nat → Int32} {gbm9 : Int} {Q : Int32 → Prop} (a0 : 0 ≤ p1.toInt) (a1 : 0 ≤ p2.toInt) (u0 : zTb v_states v_classes v_leads v_classOf 0 gbm9) (u1 : p1.toInt < zg v_states 0) (u2 : p2.toInt < zg v_states 0) (hq : ∀ (r : Int32), 0 ≤ r.toInt + 1 → 0 ≤ r.toInt → r.toInt ≤ 1 → r.toInt ≤ 2 → r.toInt ≤ 499 → r.toInt ≤ 500 → r.toInt ≤ 501 → r.toInt ≤ p1.toInt + 1 → r.toInt ≤ p2.toInt + 1 → (r.toInt ≠ 0 → zg v_group p1.toInt = zg v_group p2.toInt) → Q r) : w_X12_isAlike p1 p2 v_classes v_leads v_group Q := by
  have q_t : (bz true).toInt = 1 := rfl
  have q_f : (bz false).toInt = 0 := rfl
  have q_0 : (0 : Int32).toInt = 0 := rfl
  have q_1 : (1 : Int32).toInt = 1 := rfl
  unfold w_X12_isAlike
  have f1 : p1.toInt + 1 ≤ (zg v_states 0 : Int) := u1
  have f2 : p2.toInt + 1 ≤ (zg v_states 0 : Int) := u2
  have f3 : (zg v_states 0 : Int) ≤ 60 := u0.1.2
  have f4 : (zg v_classes 0 : Int) ≤ 260 := u0.2.1.2
  refine ⟨i_in (by omega) (by omega), ?_⟩
  intro x5 ex5
  refine ⟨i_in (by omega) (by omega), ?_⟩
  intro x11 ex11
  have j_20 : ∀ (s0_20 : Int32), 0 ≤ s0_20.toInt → s0_20.toInt ≤ 1 → ((s0_20.toInt = 0) ∨ (s0_20.toInt = 1)) → (s0_20.toInt ≠ 0 → zg v_group p1.toInt = zg v_group p2.toInt) → w_X12_isAlike_20 p1 p2 v_classes v_leads v_group Q s0_20 := by
    intro s0_20 f5 f6 f7 u20_0
    unfold w_X12_isAlike_20
    have j_24 : ∀ n_24 : Nat, ∀ (l3_24 : Int32) (l4_24 : Int32), 0 ≤ l3_24.toInt → l3_24.toInt ≤ s0_20.toInt → 0 ≤ l4_24.toInt → l4_24.toInt ≤ 499 → (l3_24.toInt ≠ 0 → zg v_group p1.toInt = zg v_group p2.toInt) → ((-1) * l4_24.toInt + 500).toNat < n_24 → w_X12_isAlike_24 p1 p2 v_classes v_leads v_group Q n_24 l3_24 l4_24 := by
      intro n_24
      induction n_24 with
      | zero =>
        intro l3_24 l4_24 f8 f9 f10 f11 u24_0 hm_24
        exfalso; omega
      | succ n_24 ih_24 =>
        intro l3_24 l4_24 f8 f9 f10 f11 u24_0 hm_24
        unfold w_X12_isAlike_24
        unfold w_X12_isAlike_24B
        intro x31 ex31
        have f12 : x31.toInt = (zg v_classes 0 : Int) := (zTb_c0 u0 ex31).1
        have j_90 : ((x31.toInt ≤ l4_24.toInt) ∨ (l4_24.toInt + 1 ≤ x31.toInt ∧ l3_24.toInt = 0)) → (l3_24.toInt ≠ 0 → zg v_group p1.toInt = zg v_group p2.toInt) → w_X12_isAlike_90 Q l3_24 := by
          intro f13 u90_0
          unfold w_X12_isAlike_90
          refine ⟨i_01 (by omega) (by omega), ?_⟩
          exact hq l3_24 (by omega) (by omega) (by omega) (by omega) (by omega) (by omega) (by omega) (by omega) (by omega) (by exact u90_0)
        refine ⟨fun c32 => ?_, fun c32 => ?_⟩
        · have f14 : x31.toInt ≤ l4_24.toInt := i_le (a := x31.toInt) (b := l4_24.toInt) rfl rfl c32
          exact j_90  (by omega) (by exact u24_0)
        · have f15 : l4_24.toInt < x31.toInt := i_nle (a := x31.toInt) (b := l4_24.toInt) rfl rfl c32
          refine ⟨fun c36 => ?_, fun c36 => ?_⟩
          · have f16 : l3_24.toInt = 0 := i_eq (a := l3_24.toInt) (b := 0) rfl rfl c36
            exact j_90  (by omega) (by exact u24_0)
          · have f17 : l3_24.toInt ≠ 0 := i_ne (a := l3_24.toInt) (b := 0) rfl rfl c36
            intro x51 ex51
            have f18 : x51.toInt = 500 * p1.toInt := i_mul (a := 500) (b := p1.toInt) ex51 rfl rfl (by omega) (by omega)
            intro x54 ex54
            have f19 : x54.toInt = x51.toInt + l4_24.toInt := i_add (a := x51.toInt) (b := l4_24.toInt) ex54 rfl rfl (by omega) (by omega)
            refine ⟨i_in (by omega) (by omega), ?_⟩
            intro x55 ex55
            have f20 : (0 ≤ x55.toInt ∧ x55.toInt + 1 ≤ (zg v_states 0 : Int)) := zTb_l (q := p1.toInt) (c := l4_24.toInt) u0 ex55 (by omega) (by omega) (by omega) (by omega) (by omega)
            refine ⟨i_in (by omega) (by omega), ?_⟩
            intro x56 ex56
            intro x69 ex69
            have f21 : x69.toInt = 500 * p2.toInt := i_mul (a := 500) (b := p2.toInt) ex69 rfl rfl (by omega) (by omega)
            intro x72 ex72
            have f22 : x72.toInt = x69.toInt + l4_24.toInt := i_add (a := x69.toInt) (b := l4_24.toInt) ex72 rfl rfl (by omega) (by omega)
            refine ⟨i_in (by omega) (by omega), ?_⟩
            intro x73 ex73
            have f23 : (0 ≤ x73.toInt ∧ x73.toInt + 1 ≤ (zg v_states 0 : Int)) := zTb_l (q := p2.toInt) (c := l4_24.toInt) u0 ex73 (by omega) (by omega) (by omega) (by omega) (by omega)
            refine ⟨i_in (by omega) (by omega), ?_⟩
            intro x74 ex74
            have j_83 : ∀ (s0_83 : Int32), 0 ≤ s0_83.toInt → s0_83.toInt ≤ 1 → ((s0_83.toInt = 0) ∨ (s0_83.toInt = 1)) → (s0_83.toInt ≠ 0 → zg v_group p1.toInt = zg v_group p2.toInt) → w_X12_isAlike_83 Q (w_X12_isAlike_24 p1 p2 v_classes v_leads v_group Q n_24) s0_83 l4_24 := by
              intro s0_83 f24 f25 f26 u83_0
              unfold w_X12_isAlike_83
              intro x84 ex84
              have f27 : x84.toInt = l4_24.toInt + 1 := i_add (a := l4_24.toInt) (b := 1) ex84 rfl rfl (by omega) (by omega)
              exact ih_24 s0_83 x84  (by omega) (by omega) (by omega) (by omega) (by first | exact u20_0 | exact u83_0) (by have h8_0 := i_rng l4_24; have h8_1 := i_rng x84; omega)
            refine ⟨fun c75 => ?_, fun c75 => ?_⟩
            · have f28 : x56.toInt ≠ x74.toInt := i_ne (a := x56.toInt) (b := x74.toInt) rfl rfl c75
              exact j_83 0 (by omega) (by omega) (by omega) (by exact fun _ => u24_0 (by omega))
            · have f29 : x56.toInt = x74.toInt := i_eq (a := x56.toInt) (b := x74.toInt) rfl rfl c75
              exact j_83 1 (by omega) (by omega) (by omega) (by exact fun _ => u24_0 (by omega))
    exact ⟨(500 : Int).toNat + 1, j_24   ((500 : Int).toNat + 1) s0_20 0  (by omega) (by omega) (by omega) (by omega) (by first | exact u20_0 | exact u83_0) (by omega)⟩
  refine ⟨fun c12 => ?_, fun c12 => ?_⟩
  · have f30 : x5.toInt ≠ x11.toInt := i_ne (a := x5.toInt) (b := x11.toInt) rfl rfl c12
    exact j_20 0 (by omega) (by omega) (by omega) (by first | exact fun _ => (by rw [← zg_at ex5, ← zg_at ex11]; omega) | exact fun z => absurd rfl z)
  · have f31 : x5.toInt = x11.toInt := i_eq (a := x5.toInt) (b := x11.toInt) rfl rfl c12
    exact j_20 1 (by omega) (by omega) (by omega) (by first | exact fun _ => (by rw [← zg_at ex5, ← zg_at ex11]; omega) | exact fun z => absurd rfl z)
set_option maxHeartbeats 4000000 in
theorem ok_X12_findLive {v_states : Nat → Int32} {v_isTaken : Nat → Bool} {v_isLive : Nat → Bool} {v_classes : Nat → Int32} {v_leads : Nat → Int32} {v_classOf : Nat → Int32} {gbm9 : Int} {Q : (Nat → Bool) → Prop} (u0 : zTb v_states v_classes v_leads v_classOf 0 gbm9) (hq : ∀ (ov_isLive : Nat → Bool), Q ov_isLive) : w_X12_findLive v_states v_isTaken v_isLive v_classes v_leads Q := by
  have q_t : (bz true).toInt = 1 := rfl
  have q_f : (bz false).toInt = 0 := rfl
  have q_0 : (0 : Int32).toInt = 0 := rfl
  have q_1 : (1 : Int32).toInt = 1 := rfl
  unfold w_X12_findLive
  have f1 : (zg v_states 0 : Int) ≤ 60 := u0.1.2
  have f2 : (zg v_classes 0 : Int) ≤ 260 := u0.2.1.2
  have j_4 : ∀ n_4 : Nat, ∀ (l2_4 : Int32) (v_isLive_4 : Nat → Bool), 0 ≤ l2_4.toInt → ((-1) * l2_4.toInt + 2147483648).toNat < n_4 → w_X12_findLive_4 v_states v_isTaken v_classes v_leads Q 1 n_4 l2_4 v_isLive_4 := by
    intro n_4
    induction n_4 with
    | zero =>
      intro l2_4 v_isLive_4 f3 hm_4
      exfalso; omega
    | succ n_4 ih_4 =>
      intro l2_4 v_isLive_4 f3 hm_4
      unfold w_X12_findLive_4
      unfold w_X12_findLive_4B
      intro x10 ex10
      have f4 : x10.toInt = (zg v_states 0 : Int) := (zTb_s0 u0 ex10).1
      have j_32 : ∀ n_32 : Nat, ∀ (l1_32 : Int32) (v_isLive_32 : Nat → Bool) (gm_32 : Int), 0 ≤ l1_32.toInt → l1_32.toInt ≤ 1 → (l1_32.toInt ≠ 0 → 61 - zcB v_isLive_32 60 ≤ gm_32) → (gm_32).toNat < n_32 → w_X12_findLive_32 v_states v_classes v_leads Q n_32 l1_32 v_isLive_32 := by
        intro n_32
        induction n_32 with
        | zero =>
          intro l1_32 v_isLive_32 gm_32 f5 f6 u32_0 hm_32
          exfalso; omega
        | succ n_32 ih_32 =>
          intro l1_32 v_isLive_32 gm_32 f5 f6 u32_0 hm_32
          unfold w_X12_findLive_32
          unfold w_X12_findLive_32B
          refine ⟨fun c33 => ?_, fun c33 => ?_⟩
          · have f7 : l1_32.toInt = 0 := i_eq (a := l1_32.toInt) (b := 0) rfl rfl c33
            exact hq v_isLive_32 
          · have f8 : l1_32.toInt ≠ 0 := i_ne (a := l1_32.toInt) (b := 0) rfl rfl c33
            have h60 := zcB_60 v_isLive_32
            have hg9 := u32_0 (by omega)
            have j_40 : ∀ n_40 : Nat, ∀ (l1_40 : Int32) (l2_40 : Int32) (v_isLive_40 : Nat → Bool), 0 ≤ l1_40.toInt → l1_40.toInt ≤ 1 → l1_40.toInt ≤ l2_40.toInt → l2_40.toInt ≤ 499 → (zLv v_isLive_32 v_isLive_40 l1_40.toInt) → ((-1) * l2_40.toInt + 500).toNat < n_40 → w_X12_findLive_40 v_states v_classes v_leads Q (w_X12_findLive_32 v_states v_classes v_leads Q n_32) n_40 l1_40 l2_40 v_isLive_40 := by
              intro n_40
              induction n_40 with
              | zero =>
                intro l1_40 l2_40 v_isLive_40 f9 f10 f11 f12 u40_0 hm_40
                exfalso; omega
              | succ n_40 ih_40 =>
                intro l1_40 l2_40 v_isLive_40 f9 f10 f11 f12 u40_0 hm_40
                unfold w_X12_findLive_40
                unfold w_X12_findLive_40B
                intro x46 ex46
                have f13 : x46.toInt = x10.toInt := congrArg Int32.toInt (ex46.trans ex10.symm)
                have f14 : x46.toInt = (zg v_states 0 : Int) := (zTb_s0 u0 ex46).1
                refine ⟨fun c47 => ?_, fun c47 => ?_⟩
                · have f15 : x46.toInt ≤ l2_40.toInt := i_le (a := x46.toInt) (b := l2_40.toInt) rfl rfl c47
                  have hb1 := u40_0.1
                  have hb2 := u40_0.2
                  exact ih_32 l1_40 v_isLive_40 (gm_32 - 1) (by omega) (by omega) (by first | exact fun _ => Int.le_refl _ | exact fun z => by have h9 := hb2 z; omega) (by omega)
                · have f16 : l2_40.toInt < x46.toInt := i_nle (a := x46.toInt) (b := l2_40.toInt) rfl rfl c47
                  have j_52 : ∀ n_52 : Nat, ∀ (l1_52 : Int32) (l3_52 : Int32) (v_isLive_52 : Nat → Bool), l1_52.toInt ≤ 1 → l1_40.toInt ≤ l1_52.toInt → 0 ≤ l3_52.toInt → l3_52.toInt ≤ 499 → (zLv v_isLive_32 v_isLive_52 l1_52.toInt) → ((-1) * l3_52.toInt + 500).toNat < n_52 → w_X12_findLive_52 v_classes v_leads Q (w_X12_findLive_32 v_states v_classes v_leads Q n_32) (w_X12_findLive_40 v_states v_classes v_leads Q (w_X12_findLive_32 v_states v_classes v_leads Q n_32) n_40) l2_40 n_52 l1_52 l3_52 v_isLive_52 := by
                    intro n_52
                    induction n_52 with
                    | zero =>
                      intro l1_52 l3_52 v_isLive_52 f17 f18 f19 f20 u52_0 hm_52
                      exfalso; omega
                    | succ n_52 ih_52 =>
                      intro l1_52 l3_52 v_isLive_52 f17 f18 f19 f20 u52_0 hm_52
                      unfold w_X12_findLive_52
                      unfold w_X12_findLive_52B
                      intro x58 ex58
                      have f21 : x58.toInt = (zg v_classes 0 : Int) := (zTb_c0 u0 ex58).1
                      have j_119 : ((x58.toInt ≤ l3_52.toInt) ∨ (l3_52.toInt + 1 ≤ x58.toInt)) → w_X12_findLive_119 Q (w_X12_findLive_32 v_states v_classes v_leads Q n_32) (w_X12_findLive_40 v_states v_classes v_leads Q (w_X12_findLive_32 v_states v_classes v_leads Q n_32) n_40) l1_52 l2_40 v_isLive_52 := by
                        intro f22
                        unfold w_X12_findLive_119
                        intro x119 ex119
                        have f23 : x119.toInt = l2_40.toInt + 1 := i_add (a := l2_40.toInt) (b := 1) ex119 rfl rfl (by omega) (by omega)
                        exact ih_40 l1_52 x119 v_isLive_52  (by omega) (by omega) (by omega) (by omega) (by first | assumption | exact zLv_0) (by have h8_0 := i_rng l2_40; have h8_1 := i_rng x119; omega)
                      refine ⟨fun c59 => ?_, fun c59 => ?_⟩
                      · have f24 : x58.toInt ≤ l3_52.toInt := i_le (a := x58.toInt) (b := l3_52.toInt) rfl rfl c59
                        exact j_119  (by omega)
                      · have f25 : l3_52.toInt < x58.toInt := i_nle (a := x58.toInt) (b := l3_52.toInt) rfl rfl c59
                        refine ⟨i_in (by omega) (by omega), ?_⟩
                        intro x67 ex67
                        have f26 : (0 ≤ x67.toInt ∧ x67.toInt ≤ 1) := i_bz ex67
                        refine ⟨fun c68 => ?_, fun c68 => ?_⟩
                        · have f27 : x67.toInt ≠ 0 := i_ne (a := x67.toInt) (b := 0) rfl rfl c68
                          exact j_119  (by omega)
                        · have f28 : x67.toInt = 0 := i_eq (a := x67.toInt) (b := 0) rfl rfl c68
                          intro x88 ex88
                          have f29 : x88.toInt = 500 * l2_40.toInt := i_mul (a := 500) (b := l2_40.toInt) ex88 rfl rfl (by omega) (by omega)
                          intro x90 ex90
                          have f30 : x90.toInt = x88.toInt + l3_52.toInt := i_add (a := x88.toInt) (b := l3_52.toInt) ex90 rfl rfl (by omega) (by omega)
                          refine ⟨i_in (by omega) (by omega), ?_⟩
                          intro x91 ex91
                          have f31 : (0 ≤ x91.toInt ∧ x91.toInt + 1 ≤ (zg v_states 0 : Int)) := zTb_l (q := l2_40.toInt) (c := l3_52.toInt) u0 ex91 (by omega) (by omega) (by omega) (by omega) (by omega)
                          refine ⟨i_in (by omega) (by omega), ?_⟩
                          intro x92 ex92
                          have f32 : (0 ≤ x92.toInt ∧ x92.toInt ≤ 1) := i_bz ex92
                          refine ⟨i_in (by omega) (by omega), ?_⟩
                          intro g93 eg93
                          have j_112 : ∀ (s0_112 : Int32), ((s0_112.toInt = 0 ∧ l1_52.toInt = 0) ∨ (s0_112.toInt = 1)) → (zLv v_isLive_32 g93 s0_112.toInt) → w_X12_findLive_112 Q (w_X12_findLive_32 v_states v_classes v_leads Q n_32) (w_X12_findLive_40 v_states v_classes v_leads Q (w_X12_findLive_32 v_states v_classes v_leads Q n_32) n_40) (w_X12_findLive_52 v_classes v_leads Q (w_X12_findLive_32 v_states v_classes v_leads Q n_32) (w_X12_findLive_40 v_states v_classes v_leads Q (w_X12_findLive_32 v_states v_classes v_leads Q n_32) n_40) l2_40 n_52) s0_112 l3_52 g93 := by
                            intro s0_112 f33 u112_0
                            unfold w_X12_findLive_112
                            intro x113 ex113
                            have f34 : x113.toInt = l3_52.toInt + 1 := i_add (a := l3_52.toInt) (b := 1) ex113 rfl rfl (by omega) (by omega)
                            exact ih_52 s0_112 x113 g93  (by omega) (by omega) (by omega) (by omega) (by assumption) (by have h8_0 := i_rng l3_52; have h8_1 := i_rng x113; omega)
                          have j_107 : (l1_52.toInt ≠ 0 ∨ g93 l2_40.toNatClampNeg = true) → w_X12_findLive_107 Q (w_X12_findLive_32 v_states v_classes v_leads Q n_32) (w_X12_findLive_40 v_states v_classes v_leads Q (w_X12_findLive_32 v_states v_classes v_leads Q n_32) n_40) (w_X12_findLive_52 v_classes v_leads Q (w_X12_findLive_32 v_states v_classes v_leads Q n_32) (w_X12_findLive_40 v_states v_classes v_leads Q (w_X12_findLive_32 v_states v_classes v_leads Q n_32) n_40) l2_40 n_52) l3_52 g93 := by
                            intro u107_0
                            unfold w_X12_findLive_107
                            exact j_112 1 (by omega) (by first | exact zLv_s u52_0 ex67 (by omega) eg93 (by omega) (by omega) (fun _ => u107_0) | exact zLv_s u52_0 ex67 (by omega) eg93 (by omega) (by omega) (fun z => (z rfl).elim))
                          refine ⟨fun c95 => ?_, fun c95 => ?_⟩
                          · have f35 : l1_52.toInt ≠ 0 := i_ne (a := l1_52.toInt) (b := 0) rfl rfl c95
                            exact j_107  (by first | exact Or.inr (zbz_t ex103 (by omega)) | exact Or.inl (by omega))
                          · have f36 : l1_52.toInt = 0 := i_eq (a := l1_52.toInt) (b := 0) rfl rfl c95
                            refine ⟨i_in (by omega) (by omega), ?_⟩
                            intro x103 ex103
                            have f37 : (0 ≤ x103.toInt ∧ x103.toInt ≤ 1) := i_bz ex103
                            refine ⟨fun c104 => ?_, fun c104 => ?_⟩
                            · have f38 : x103.toInt = 0 := i_eq (a := x103.toInt) (b := 0) rfl rfl c104
                              exact j_112 0 (by omega) (by first | exact zLv_s u52_0 ex67 (by omega) eg93 (by omega) (by omega) (fun _ => u107_0) | exact zLv_s u52_0 ex67 (by omega) eg93 (by omega) (by omega) (fun z => (z rfl).elim))
                            · have f39 : x103.toInt ≠ 0 := i_ne (a := x103.toInt) (b := 0) rfl rfl c104
                              exact j_107  (by first | exact Or.inr (zbz_t ex103 (by omega)) | exact Or.inl (by omega))
                  exact ⟨(500 : Int).toNat + 1, j_52   ((500 : Int).toNat + 1) l1_40 0 v_isLive_40  (by omega) (by omega) (by omega) (by omega) (by assumption) (by omega)⟩
            exact ⟨(500 : Int).toNat + 1, j_40   ((500 : Int).toNat + 1) 0 0 v_isLive_32  (by omega) (by omega) (by omega) (by omega) (by first | assumption | exact zLv_0) (by omega)⟩
      refine ⟨fun c11 => ?_, fun c11 => ?_⟩
      · have f40 : x10.toInt ≤ l2_4.toInt := i_le (a := x10.toInt) (b := l2_4.toInt) rfl rfl c11
        exact ⟨((61 - zcB v_isLive_4 60)).toNat + 1, j_32   (((61 - zcB v_isLive_4 60)).toNat + 1) 1 v_isLive_4 (61 - zcB v_isLive_4 60) (by omega) (by omega) (by first | exact fun _ => Int.le_refl _ | exact fun z => by have h9 := hb2 z; omega) (by omega)⟩
      · have f41 : l2_4.toInt < x10.toInt := i_nle (a := x10.toInt) (b := l2_4.toInt) rfl rfl c11
        refine ⟨i_in (by omega) (by omega), ?_⟩
        intro x24 ex24
        have f42 : (0 ≤ x24.toInt ∧ x24.toInt ≤ 1) := i_bz ex24
        refine ⟨i_in (by omega) (by omega), ?_⟩
        intro g25 eg25
        intro x26 ex26
        have f43 : x26.toInt = l2_4.toInt + 1 := i_add (a := l2_4.toInt) (b := 1) ex26 rfl rfl (by omega) (by omega)
        exact ih_4 x26 g25  (by omega) (by have h8_0 := i_rng l2_4; have h8_1 := i_rng x26; omega)
  exact ⟨(2147483648 : Int).toNat + 1, j_4   ((2147483648 : Int).toNat + 1) 0 v_isLive  (by omega) (by omega)⟩
set_option maxHeartbeats 4000000 in
theorem ok_X12_meet {p1 : Int32} {p2 : Int32} {p3 : Int32} {p4 : Int32} {v_pairs : Int32} {v_pairA : Nat → Int32} {v_pairB : Nat → Int32} {v_pairFrom : Nat → Int32} {v_pairSign : Nat → Int32} {v_isPair : Nat → Bool} {gP9 : Nat} {gs0 : Int} {gs1 : Int} {Q : Int32 → (Nat → Int32) → (Nat → Int32) → (Nat → Int32) → (Nat → Int32) → (Nat → Bool) → Prop} (a0 : 0 ≤ p1.toInt) (a1 : p1.toInt ≤ 59) (a2 : 0 ≤ p2.toInt) (a3 : p2.toInt ≤ 59) (a4 : 0 ≤ p3.toInt + 1) (a5 : p3.toInt + 1 ≤ v_pairs.toInt) (a6 : 0 ≤ v_pairs.toInt) (a7 : v_pairs.toInt ≤ 3800) (b0 : rp (fun k v => 0 ≤ v ∧ v ≤ 59) v_pairA 0 v_pairs.toInt) (b1 : rp (fun k v => 0 ≤ v ∧ v ≤ 59) v_pairB 0 v_pairs.toInt) (b2 : rp (fun k v => v < k ∧ -1 ≤ v) v_pairFrom 0 v_pairs.toInt) (u0 : (gP9 : Int) = 3800) (u1 : v_pairs.toInt = zcB v_isPair gP9) (u2 : zPp v_pairA v_pairB gs0 gs1 v_pairs.toInt) (u3 : p1.toInt < gs0) (u4 : p2.toInt < gs1) (hq : ∀ (ov_pairs : Int32) (ov_pairA : Nat → Int32) (ov_pairB : Nat → Int32) (ov_pairFrom : Nat → Int32) (ov_pairSign : Nat → Int32) (ov_isPair : Nat → Bool), v_pairs.toInt ≤ ov_pairs.toInt → ov_pairs.toInt ≤ 3800 → rp (fun k v => 0 ≤ v ∧ v ≤ 59) ov_pairA 0 v_pairs.toInt → rp (fun k v => 0 ≤ v ∧ v ≤ 59) ov_pairA 0 ov_pairs.toInt → rp (fun k v => 0 ≤ v ∧ v ≤ 59) ov_pairB 0 v_pairs.toInt → rp (fun k v => 0 ≤ v ∧ v ≤ 59) ov_pairB 0 ov_pairs.toInt → rp (fun k v => v < k ∧ -1 ≤ v) ov_pairFrom 0 v_pairs.toInt → rp (fun k v => v < k ∧ -1 ≤ v) ov_pairFrom 0 ov_pairs.toInt → (ov_pairs.toInt = zcB ov_isPair gP9) → (zPp ov_pairA ov_pairB gs0 gs1 ov_pairs.toInt) → Q ov_pairs ov_pairA ov_pairB ov_pairFrom ov_pairSign ov_isPair) : w_X12_meet p1 p2 p3 p4 v_pairs v_pairA v_pairB v_pairFrom v_pairSign v_isPair Q := by
  have q_t : (bz true).toInt = 1 := rfl
  have q_f : (bz false).toInt = 0 := rfl
  unfold w_X12_meet
  intro x7 ex7
  have f1 : x7.toInt = 61 * p1.toInt := i_mul (a := 61) (b := p1.toInt) ex7 rfl rfl (by omega) (by omega)
  intro x9 ex9
  have f2 : x9.toInt = x7.toInt + p2.toInt := i_add (a := x7.toInt) (b := p2.toInt) ex9 rfl rfl (by omega) (by omega)
  refine ⟨i_in (by omega) (by omega), ?_⟩
  intro x10 ex10
  have f3 : (0 ≤ x10.toInt ∧ x10.toInt ≤ 1) := i_bz ex10
  have j_77 : ∀ (v_pairs_77 : Int32) (v_pairA_77 : Nat → Int32) (v_pairB_77 : Nat → Int32) (v_pairFrom_77 : Nat → Int32) (v_pairSign_77 : Nat → Int32) (v_isPair_77 : Nat → Bool), v_pairs.toInt ≤ v_pairs_77.toInt → v_pairs_77.toInt ≤ 3800 → ((v_pairs_77.toInt = v_pairs.toInt) ∨ (x10.toInt = 0 ∧ v_pairs.toInt ≤ 3799 ∧ v_pairs_77.toInt = v_pairs.toInt + 1)) → rp (fun k v => 0 ≤ v ∧ v ≤ 59) v_pairA_77 0 v_pairs.toInt → rp (fun k v => 0 ≤ v ∧ v ≤ 59) v_pairA_77 0 v_pairs_77.toInt → rp (fun k v => 0 ≤ v ∧ v ≤ 59) v_pairB_77 0 v_pairs.toInt → rp (fun k v => 0 ≤ v ∧ v ≤ 59) v_pairB_77 0 v_pairs_77.toInt → rp (fun k v => v < k ∧ -1 ≤ v) v_pairFrom_77 0 v_pairs.toInt → rp (fun k v => v < k ∧ -1 ≤ v) v_pairFrom_77 0 v_pairs_77.toInt → (v_pairs_77.toInt = zcB v_isPair_77 gP9) → (zPp v_pairA_77 v_pairB_77 gs0 gs1 v_pairs_77.toInt) → w_X12_meet_77 Q v_pairs_77 v_pairA_77 v_pairB_77 v_pairFrom_77 v_pairSign_77 v_isPair_77 := by
    intro v_pairs_77 v_pairA_77 v_pairB_77 v_pairFrom_77 v_pairSign_77 v_isPair_77 f4 f5 f6 h7 h8 h9 h10 h11 h12 u77_0 u77_1
    unfold w_X12_meet_77
    exact hq v_pairs_77 v_pairA_77 v_pairB_77 v_pairFrom_77 v_pairSign_77 v_isPair_77 (by omega) (by omega) (rp_mono h8 (by omega) (by omega)) (rp_mono h8 (by omega) (by omega)) (rp_mono h10 (by omega) (by omega)) (rp_mono h10 (by omega) (by omega)) (rp_mono h12 (by omega) (by omega)) (rp_mono h12 (by omega) (by omega)) (by assumption) (by assumption)
  refine ⟨fun c11 => ?_, fun c11 => ?_⟩
  · have f13 : x10.toInt ≠ 0 := i_ne (a := x10.toInt) (b := 0) rfl rfl c11
    exact j_77 v_pairs v_pairA v_pairB v_pairFrom v_pairSign v_isPair (by omega) (by omega) (by omega) (rp_mono b0 (by omega) (by omega)) (rp_mono b0 (by omega) (by omega)) (rp_mono b1 (by omega) (by omega)) (rp_mono b1 (by omega) (by omega)) (rp_mono b2 (by omega) (by omega)) (rp_mono b2 (by omega) (by omega)) (by first | assumption | (rw [zcB_inc eg25 (by decide) (by omega) (by omega) (zbzf_eq ex10 (by omega) (by omega))]; omega)) (by first | assumption | exact zPp_w u2 eg35 eg45 (by omega) (by omega) (by omega) (by omega))
  · have f14 : x10.toInt = 0 := i_eq (a := x10.toInt) (b := 0) rfl rfl c11
    have hf9 := zbz_f ex10 (by omega)
    have hl9 := zcB_lt (n := gP9) (show 0 ≤ x9.toInt by omega) (by omega) hf9
    have f15 : v_pairs.toInt ≤ 3799 := by omega
    intro x21 ex21
    have f16 : x21.toInt = 61 * p1.toInt := i_mul (a := 61) (b := p1.toInt) ex21 rfl rfl (by omega) (by omega)
    intro x23 ex23
    have f17 : x23.toInt = x21.toInt + p2.toInt := i_add (a := x21.toInt) (b := p2.toInt) ex23 rfl rfl (by omega) (by omega)
    refine ⟨i_in (by omega) (by omega), ?_⟩
    intro g25 eg25
    refine ⟨i_in (by omega) (by omega), ?_⟩
    intro g35 eg35
    have h18 : rp (fun k v => 0 ≤ v ∧ v ≤ 59) g35 0 (v_pairs.toInt + 1) := rp_ext (P := (fun k v => 0 ≤ v ∧ v ≤ 59)) (a := v_pairs.toInt) (b := p1.toInt) b0 eg35 rfl rfl (by omega) (by omega) ⟨(by omega), (by omega)⟩
    refine ⟨i_in (by omega) (by omega), ?_⟩
    intro g45 eg45
    have h19 : rp (fun k v => 0 ≤ v ∧ v ≤ 59) g45 0 (v_pairs.toInt + 1) := rp_ext (P := (fun k v => 0 ≤ v ∧ v ≤ 59)) (a := v_pairs.toInt) (b := p2.toInt) b1 eg45 rfl rfl (by omega) (by omega) ⟨(by omega), (by omega)⟩
    refine ⟨i_in (by omega) (by omega), ?_⟩
    intro g55 eg55
    have h20 : rp (fun k v => v < k ∧ -1 ≤ v) g55 0 (v_pairs.toInt + 1) := rp_ext (P := (fun k v => v < k ∧ -1 ≤ v)) (a := v_pairs.toInt) (b := p3.toInt) b2 eg55 rfl rfl (by omega) (by omega) ⟨(by omega), (by omega)⟩
    refine ⟨i_in (by omega) (by omega), ?_⟩
    intro g66 eg66
    intro x73 ex73
    have f21 : x73.toInt = v_pairs.toInt + 1 := i_add (a := v_pairs.toInt) (b := 1) ex73 rfl rfl (by omega) (by omega)
    exact j_77 x73 g35 g45 g55 g66 g25 (by omega) (by omega) (by omega) (rp_mono h18 (by omega) (by omega)) (rp_mono h18 (by omega) (by omega)) (rp_mono h19 (by omega) (by omega)) (rp_mono h19 (by omega) (by omega)) (rp_mono h20 (by omega) (by omega)) (rp_mono h20 (by omega) (by omega)) (by first | assumption | (rw [zcB_inc eg25 (by decide) (by omega) (by omega) (zbzf_eq ex10 (by omega) (by omega))]; omega)) (by first | assumption | exact zPp_w u2 eg35 eg45 (by omega) (by omega) (by omega) (by omega))
set_option maxHeartbeats 4000000 in
theorem ok_X12_isParted {p1 : Int32} {v_pairs : Int32} {v_isTaken : Nat → Bool} {v_pairA : Nat → Int32} {v_pairB : Nat → Int32} {Q : Int32 → Prop} (a0 : 0 ≤ p1.toInt) (a1 : p1.toInt + 1 ≤ v_pairs.toInt) (a2 : 0 ≤ v_pairs.toInt) (a3 : v_pairs.toInt ≤ 3800) (b0 : rp (fun k v => 0 ≤ v ∧ v ≤ 59) v_pairA 0 v_pairs.toInt) (b1 : rp (fun k v => 0 ≤ v ∧ v ≤ 59) v_pairB 0 v_pairs.toInt) (hq : ∀ (r : Int32), 0 ≤ r.toInt → r.toInt ≤ 1 → Q r) : w_X12_isParted p1 v_isTaken v_pairA v_pairB Q := by
  have q_t : (bz true).toInt = 1 := rfl
  have q_f : (bz false).toInt = 0 := rfl
  have q_0 : (0 : Int32).toInt = 0 := rfl
  have q_1 : (1 : Int32).toInt = 1 := rfl
  unfold w_X12_isParted
  refine ⟨i_in (by omega) (by omega), ?_⟩
  intro x9 ex9
  have f1 : 0 ≤ x9.toInt ∧ x9.toInt ≤ 59 := by have h9 := rp_get (P := (fun k v => 0 ≤ v ∧ v ≤ 59)) (a := p1.toInt) b0 ex9 rfl (by omega) (by omega) (by omega); omega
  refine ⟨i_in (by omega) (by omega), ?_⟩
  intro x10 ex10
  have f2 : (0 ≤ x10.toInt ∧ x10.toInt ≤ 1) := i_bz ex10
  refine ⟨i_in (by omega) (by omega), ?_⟩
  intro x22 ex22
  have f3 : 0 ≤ x22.toInt ∧ x22.toInt ≤ 59 := by have h9 := rp_get (P := (fun k v => 0 ≤ v ∧ v ≤ 59)) (a := p1.toInt) b1 ex22 rfl (by omega) (by omega) (by omega); omega
  intro x23 ex23
  have f4 : x23.toInt = 61 + x22.toInt := i_add (a := 61) (b := x22.toInt) ex23 rfl rfl (by omega) (by omega)
  refine ⟨i_in (by omega) (by omega), ?_⟩
  intro x24 ex24
  have f5 : (0 ≤ x24.toInt ∧ x24.toInt ≤ 1) := i_bz ex24
  have j_33 : ∀ (s0_33 : Int32), 0 ≤ s0_33.toInt → s0_33.toInt ≤ 1 → ((s0_33.toInt = 0 ∧ x10.toInt = x24.toInt) ∨ (s0_33.toInt = 1)) → w_X12_isParted_33 Q s0_33 := by
    intro s0_33 f6 f7 f8
    unfold w_X12_isParted_33
    refine ⟨i_01 (by omega) (by omega), ?_⟩
    exact hq s0_33 (by omega) (by omega)
  refine ⟨fun c25 => ?_, fun c25 => ?_⟩
  · have f9 : x10.toInt = x24.toInt := i_eq (a := x10.toInt) (b := x24.toInt) rfl rfl c25
    exact j_33 0 (by omega) (by omega) (by omega)
  · have f10 : x10.toInt ≠ x24.toInt := i_ne (a := x10.toInt) (b := x24.toInt) rfl rfl c25
    exact j_33 1 (by omega) (by omega) (by omega)
set_option maxHeartbeats 4000000 in
theorem ok_X12_findSorts {v_boundMany : Int32} {v_bounds : Nat → Int32} {v_classOf : Nat → Int32} {v_sortA : Nat → Int32} {v_sortB : Nat → Int32} {v_sortSign : Nat → Int32} {v_states : Nat → Int32} {v_classes : Nat → Int32} {v_leads : Nat → Int32} {Q : Int32 → (Nat → Int32) → (Nat → Int32) → (Nat → Int32) → Prop} (a0 : 1 ≤ v_boundMany.toInt) (a1 : v_boundMany.toInt ≤ 260) (b0 : rp (fun k v => 0 ≤ v ∧ v ≤ 65535) v_bounds 0 v_boundMany.toInt) (u0 : zTb v_states v_classes v_leads v_classOf 0 v_boundMany.toInt) (u1 : zTb v_states v_classes v_leads v_classOf 1 v_boundMany.toInt) (hq : ∀ (ov_sorts : Int32) (ov_sortA : Nat → Int32) (ov_sortB : Nat → Int32) (ov_sortSign : Nat → Int32), 0 ≤ ov_sorts.toInt + 1 → 0 ≤ ov_sorts.toInt → ov_sorts.toInt ≤ 2999 → ov_sorts.toInt ≤ 3000 → ov_sorts.toInt ≤ 3001 → ov_sorts.toInt ≤ v_boundMany.toInt → ov_sorts.toInt ≤ v_boundMany.toInt + 1 → ov_sorts.toInt ≤ 260 → (zSo ov_sortA ov_sortB v_classes ov_sorts.toInt) → Q ov_sorts ov_sortA ov_sortB ov_sortSign) : w_X12_findSorts v_boundMany v_bounds v_classOf v_sortA v_sortB v_sortSign Q := by
  have q_t : (bz true).toInt = 1 := rfl
  have q_f : (bz false).toInt = 0 := rfl
  have q_0 : (0 : Int32).toInt = 0 := rfl
  unfold w_X12_findSorts
  have j_7 : ∀ n_7 : Nat, ∀ (l1_7 : Int32) (v_sorts_7 : Int32) (v_sortA_7 : Nat → Int32) (v_sortB_7 : Nat → Int32) (v_sortSign_7 : Nat → Int32), l1_7.toInt ≤ v_boundMany.toInt → 0 ≤ v_sorts_7.toInt → v_sorts_7.toInt ≤ l1_7.toInt → (zSo v_sortA_7 v_sortB_7 v_classes v_sorts_7.toInt) → ((-1) * l1_7.toInt + 3000).toNat < n_7 → w_X12_findSorts_7 v_boundMany v_bounds v_classOf Q n_7 l1_7 v_sorts_7 v_sortA_7 v_sortB_7 v_sortSign_7 := by
    intro n_7
    induction n_7 with
    | zero =>
      intro l1_7 v_sorts_7 v_sortA_7 v_sortB_7 v_sortSign_7 f1 f2 f3 u7_0 hm_7
      exfalso; omega
    | succ n_7 ih_7 =>
      intro l1_7 v_sorts_7 v_sortA_7 v_sortB_7 v_sortSign_7 f1 f2 f3 u7_0 hm_7
      unfold w_X12_findSorts_7
      unfold w_X12_findSorts_7B
      refine ⟨fun c12 => ?_, fun c12 => ?_⟩
      · have f4 : v_boundMany.toInt ≤ l1_7.toInt := i_le (a := v_boundMany.toInt) (b := l1_7.toInt) rfl rfl c12
        exact hq v_sorts_7 v_sortA_7 v_sortB_7 v_sortSign_7 (by omega) (by omega) (by omega) (by omega) (by omega) (by omega) (by omega) (by omega) (by assumption)
      · have f5 : l1_7.toInt < v_boundMany.toInt := i_nle (a := v_boundMany.toInt) (b := l1_7.toInt) rfl rfl c12
        refine ⟨i_in (by omega) (by omega), ?_⟩
        intro x20 ex20
        have hx9 := zTb_o (b := l1_7.toInt) u0 ex20 (by omega) (by omega) (by omega)
        intro x30 ex30
        have f6 : x30.toInt = 3000 + l1_7.toInt := i_add (a := 3000) (b := l1_7.toInt) ex30 rfl rfl (by omega) (by omega)
        refine ⟨i_in (by omega) (by omega), ?_⟩
        intro x31 ex31
        have hy9 := zTb_o (b := l1_7.toInt) u1 ex31 (by omega) (by omega) (by omega)
        have j_36 : ∀ n_36 : Nat, ∀ (l4_36 : Int32), 0 ≤ l4_36.toInt → l4_36.toInt ≤ v_sorts_7.toInt → ((-1) * l4_36.toInt + 2147483648).toNat < n_36 → w_X12_findSorts_36 v_bounds Q (w_X12_findSorts_7 v_boundMany v_bounds v_classOf Q n_7) l1_7 x20 x31 v_sorts_7 v_sortA_7 v_sortB_7 v_sortSign_7 n_36 l4_36 := by
          intro n_36
          induction n_36 with
          | zero =>
            intro l4_36 f7 f8 hm_36
            exfalso; omega
          | succ n_36 ih_36 =>
            intro l4_36 f7 f8 hm_36
            unfold w_X12_findSorts_36
            unfold w_X12_findSorts_36B
            have j_73 : ((v_sorts_7.toInt ≤ l4_36.toInt) ∨ (l4_36.toInt + 1 ≤ v_sorts_7.toInt)) → w_X12_findSorts_73 v_bounds Q (w_X12_findSorts_7 v_boundMany v_bounds v_classOf Q n_7) l1_7 x20 x31 l4_36 v_sorts_7 v_sortA_7 v_sortB_7 v_sortSign_7 := by
              intro f9
              unfold w_X12_findSorts_73
              have j_121 : ∀ (v_sorts_121 : Int32) (v_sortA_121 : Nat → Int32) (v_sortB_121 : Nat → Int32) (v_sortSign_121 : Nat → Int32), v_sorts_7.toInt ≤ v_sorts_121.toInt → v_sorts_121.toInt ≤ v_sorts_7.toInt + 1 → ((v_sorts_121.toInt = v_sorts_7.toInt) ∨ (l4_36.toInt = v_sorts_7.toInt ∧ v_sorts_121.toInt = v_sorts_7.toInt + 1)) → 1 ≤ v_sorts_121.toInt → (zSo v_sortA_121 v_sortB_121 v_classes v_sorts_121.toInt) → w_X12_findSorts_121 Q (w_X12_findSorts_7 v_boundMany v_bounds v_classOf Q n_7) l1_7 v_sorts_121 v_sortA_121 v_sortB_121 v_sortSign_121 := by
                intro v_sorts_121 v_sortA_121 v_sortB_121 v_sortSign_121 f10 f11 f12 f13 u121_0
                unfold w_X12_findSorts_121
                intro x121 ex121
                have f14 : x121.toInt = l1_7.toInt + 1 := i_add (a := l1_7.toInt) (b := 1) ex121 rfl rfl (by omega) (by omega)
                exact ih_7 x121 v_sorts_121 v_sortA_121 v_sortB_121 v_sortSign_121  (by omega) (by omega) (by omega) (by first | assumption | exact zSo_0) (by have h8_0 := i_rng l1_7; have h8_1 := i_rng x121; omega)
              refine ⟨fun c79 => ?_, fun c79 => ?_⟩
              · have f15 : l4_36.toInt ≠ v_sorts_7.toInt := i_ne (a := l4_36.toInt) (b := v_sorts_7.toInt) rfl rfl c79
                exact j_121 v_sorts_7 v_sortA_7 v_sortB_7 v_sortSign_7 (by omega) (by omega) (by omega) (by omega) (by first | assumption | exact zSo_w u7_0 eg89 eg97 hx9 hy9 (by omega) (by omega) (by omega))
              · have f16 : l4_36.toInt = v_sorts_7.toInt := i_eq (a := l4_36.toInt) (b := v_sorts_7.toInt) rfl rfl c79
                refine ⟨i_in (by omega) (by omega), ?_⟩
                intro g89 eg89
                refine ⟨i_in (by omega) (by omega), ?_⟩
                intro g97 eg97
                refine ⟨i_in (by omega) (by omega), ?_⟩
                intro x109 ex109
                have f17 : 0 ≤ x109.toInt ∧ x109.toInt ≤ 65535 := by have h9 := rp_get (P := (fun k v => 0 ≤ v ∧ v ≤ 65535)) (a := l1_7.toInt) b0 ex109 rfl (by omega) (by omega) (by omega); omega
                refine ⟨i_in (by omega) (by omega), ?_⟩
                intro g110 eg110
                intro x117 ex117
                have f18 : x117.toInt = v_sorts_7.toInt + 1 := i_add (a := v_sorts_7.toInt) (b := 1) ex117 rfl rfl (by omega) (by omega)
                exact j_121 x117 g89 g97 g110 (by omega) (by omega) (by omega) (by omega) (by first | assumption | exact zSo_w u7_0 eg89 eg97 hx9 hy9 (by omega) (by omega) (by omega))
            refine ⟨fun c42 => ?_, fun c42 => ?_⟩
            · have f19 : v_sorts_7.toInt ≤ l4_36.toInt := i_le (a := v_sorts_7.toInt) (b := l4_36.toInt) rfl rfl c42
              exact j_73  (by omega)
            · have f20 : l4_36.toInt < v_sorts_7.toInt := i_nle (a := v_sorts_7.toInt) (b := l4_36.toInt) rfl rfl c42
              refine ⟨i_in (by omega) (by omega), ?_⟩
              intro x51 ex51
              have j_67 : w_X12_findSorts_67 Q (w_X12_findSorts_7 v_boundMany v_bounds v_classOf Q n_7) (w_X12_findSorts_36 v_bounds Q (w_X12_findSorts_7 v_boundMany v_bounds v_classOf Q n_7) l1_7 x20 x31 v_sorts_7 v_sortA_7 v_sortB_7 v_sortSign_7 n_36) l4_36 := by
                unfold w_X12_findSorts_67
                intro x67 ex67
                have f21 : x67.toInt = l4_36.toInt + 1 := i_add (a := l4_36.toInt) (b := 1) ex67 rfl rfl (by omega) (by omega)
                exact ih_36 x67  (by omega) (by omega) (by have h8_0 := i_rng l4_36; have h8_1 := i_rng x67; omega)
              refine ⟨fun c53 => ?_, fun c53 => ?_⟩
              · have f22 : x51.toInt ≠ x20.toInt := i_ne (a := x51.toInt) (b := x20.toInt) rfl rfl c53
                exact j_67  
              · have f23 : x51.toInt = x20.toInt := i_eq (a := x51.toInt) (b := x20.toInt) rfl rfl c53
                refine ⟨i_in (by omega) (by omega), ?_⟩
                intro x62 ex62
                refine ⟨fun c64 => ?_, fun c64 => ?_⟩
                · have f24 : x62.toInt = x31.toInt := i_eq (a := x62.toInt) (b := x31.toInt) rfl rfl c64
                  exact j_73  (by omega)
                · have f25 : x62.toInt ≠ x31.toInt := i_ne (a := x62.toInt) (b := x31.toInt) rfl rfl c64
                  exact j_67  
        exact ⟨(2147483648 : Int).toNat + 1, j_36   ((2147483648 : Int).toNat + 1) 0  (by omega) (by omega) (by omega)⟩
  exact ⟨(3000 : Int).toNat + 1, j_7   ((3000 : Int).toNat + 1) 0 0 v_sortA v_sortB v_sortSign  (by omega) (by omega) (by omega) (by first | assumption | exact zSo_0) (by omega)⟩
set_option maxHeartbeats 4000000 in
theorem ok_X12_findPairs {v_pairs : Int32} {v_sorts : Int32} {v_leads : Nat → Int32} {v_pairA : Nat → Int32} {v_pairB : Nat → Int32} {v_pairFrom : Nat → Int32} {v_pairSign : Nat → Int32} {v_isPair : Nat → Bool} {v_sortA : Nat → Int32} {v_sortB : Nat → Int32} {v_sortSign : Nat → Int32} {v_states : Nat → Int32} {v_classes : Nat → Int32} {v_classOf : Nat → Int32} {gP9 : Nat} {gbm9 : Int} {Q : Int32 → (Nat → Int32) → (Nat → Int32) → (Nat → Int32) → (Nat → Int32) → (Nat → Bool) → Prop} (a0 : 0 ≤ v_sorts.toInt) (a1 : v_sorts.toInt ≤ 260) (b0 : rp (fun k v => 0 ≤ v ∧ v ≤ 59) v_pairA 0 v_pairs.toInt) (b1 : rp (fun k v => 0 ≤ v ∧ v ≤ 59) v_pairB 0 v_pairs.toInt) (b2 : rp (fun k v => v < k ∧ -1 ≤ v) v_pairFrom 0 v_pairs.toInt) (u0 : zTb v_states v_classes v_leads v_classOf 0 gbm9) (u1 : zTb v_states v_classes v_leads v_classOf 1 gbm9) (u2 : zSo v_sortA v_sortB v_classes v_sorts.toInt) (u3 : (gP9 : Int) = 3800) (hq : ∀ (ov_pairs : Int32) (ov_pairA : Nat → Int32) (ov_pairB : Nat → Int32) (ov_pairFrom : Nat → Int32) (ov_pairSign : Nat → Int32) (ov_isPair : Nat → Bool), 0 ≤ ov_pairs.toInt + 1 → 0 ≤ ov_pairs.toInt → ov_pairs.toInt ≤ 3800 → ov_pairs.toInt ≤ 30499 → ov_pairs.toInt ≤ 30500 → ov_pairs.toInt ≤ 30501 → rp (fun k v => 0 ≤ v ∧ v ≤ 59) ov_pairA 0 0 → rp (fun k v => 0 ≤ v ∧ v ≤ 59) ov_pairA 0 ov_pairs.toInt → rp (fun k v => 0 ≤ v ∧ v ≤ 59) ov_pairB 0 0 → rp (fun k v => 0 ≤ v ∧ v ≤ 59) ov_pairB 0 ov_pairs.toInt → rp (fun k v => v < k ∧ -1 ≤ v) ov_pairFrom 0 0 → rp (fun k v => v < k ∧ -1 ≤ v) ov_pairFrom 0 ov_pairs.toInt → (zPp ov_pairA ov_pairB (zg v_states 0) (zg v_states 1) ov_pairs.toInt) → Q ov_pairs ov_pairA ov_pairB ov_pairFrom ov_pairSign ov_isPair) : w_X12_findPairs v_pairs v_sorts v_leads v_pairA v_pairB v_pairFrom v_pairSign v_isPair v_sortA v_sortB v_sortSign Q := by
  have q_t : (bz true).toInt = 1 := rfl
  have q_f : (bz false).toInt = 0 := rfl
  have q_m1 : ((-1) : Int32).toInt = (-1) := rfl
  have q_0 : (0 : Int32).toInt = 0 := rfl
  unfold w_X12_findPairs
  have f1 : (zg v_states 0 : Int) ≤ 60 := u0.1.2
  have f2 : (zg v_classes 0 : Int) ≤ 260 := u0.2.1.2
  have f3 : (zg v_states 1 : Int) ≤ 60 := u1.1.2
  have f4 : (zg v_classes 1 : Int) ≤ 260 := u1.2.1.2
  have f5 : 1 ≤ (zg v_states 0 : Int) := u0.1.1
  have f6 : 1 ≤ (zg v_states 1 : Int) := u1.1.1
  have j_2 : ∀ n_2 : Nat, ∀ (l1_2 : Int32) (v_isPair_2 : Nat → Bool), 0 ≤ l1_2.toInt → l1_2.toInt ≤ 3800 → (zOff v_isPair_2 l1_2.toInt) → ((-1) * l1_2.toInt + 3800).toNat < n_2 → w_X12_findPairs_2 v_sorts v_leads v_sortA v_sortB v_sortSign Q v_pairs v_pairA v_pairB v_pairFrom v_pairSign n_2 l1_2 v_isPair_2 := by
    intro n_2
    induction n_2 with
    | zero =>
      intro l1_2 v_isPair_2 f7 f8 u2_0 hm_2
      exfalso; omega
    | succ n_2 ih_2 =>
      intro l1_2 v_isPair_2 f7 f8 u2_0 hm_2
      unfold w_X12_findPairs_2
      unfold w_X12_findPairs_2B
      refine ⟨fun c6 => ?_, fun c6 => ?_⟩
      · have f9 : 3800 ≤ l1_2.toInt := i_le (a := 3800) (b := l1_2.toInt) rfl rfl c6
        have hz9 : zcB v_isPair_2 gP9 = 0 := zNp_c (fun j j0 j1 => u2_0 j j0 (by omega))
        refine ok_X12_meet (gP9 := gP9) (gs0 := (zg v_states 0)) (gs1 := (zg v_states 1)) (by omega) (by omega) (by omega) (by omega) (by omega) (by omega) (by omega) (by omega) (rp_nil (by omega)) (rp_nil (by omega)) (rp_nil (by omega)) (by exact u3) (by rw [hz9]; rfl) (by exact zPp_0) (by first | assumption | omega) (by first | assumption | omega) (fun r32_0 r32_1 r32_2 r32_3 r32_4 r32_5 f10 f11 h12 h13 h14 h15 h16 h17 u32_0 u32_1 => ?_)
        have j_37 : ∀ n_37 : Nat, ∀ (l1_37 : Int32) (v_pairs_37 : Int32) (v_pairA_37 : Nat → Int32) (v_pairB_37 : Nat → Int32) (v_pairFrom_37 : Nat → Int32) (v_pairSign_37 : Nat → Int32) (v_isPair_37 : Nat → Bool), 0 ≤ l1_37.toInt → l1_37.toInt ≤ v_pairs_37.toInt → r32_0.toInt ≤ v_pairs_37.toInt → v_pairs_37.toInt ≤ 3800 → rp (fun k v => 0 ≤ v ∧ v ≤ 59) v_pairA_37 0 0 → rp (fun k v => 0 ≤ v ∧ v ≤ 59) v_pairA_37 0 l1_37.toInt → rp (fun k v => 0 ≤ v ∧ v ≤ 59) v_pairA_37 l1_37.toInt 0 → rp (fun k v => 0 ≤ v ∧ v ≤ 59) v_pairA_37 l1_37.toInt l1_37.toInt → rp (fun k v => 0 ≤ v ∧ v ≤ 59) v_pairA_37 0 r32_0.toInt → rp (fun k v => 0 ≤ v ∧ v ≤ 59) v_pairA_37 0 v_pairs_37.toInt → rp (fun k v => 0 ≤ v ∧ v ≤ 59) v_pairA_37 l1_37.toInt r32_0.toInt → rp (fun k v => 0 ≤ v ∧ v ≤ 59) v_pairA_37 l1_37.toInt v_pairs_37.toInt → rp (fun k v => 0 ≤ v ∧ v ≤ 59) v_pairB_37 0 0 → rp (fun k v => 0 ≤ v ∧ v ≤ 59) v_pairB_37 0 l1_37.toInt → rp (fun k v => 0 ≤ v ∧ v ≤ 59) v_pairB_37 l1_37.toInt 0 → rp (fun k v => 0 ≤ v ∧ v ≤ 59) v_pairB_37 l1_37.toInt l1_37.toInt → rp (fun k v => 0 ≤ v ∧ v ≤ 59) v_pairB_37 0 r32_0.toInt → rp (fun k v => 0 ≤ v ∧ v ≤ 59) v_pairB_37 0 v_pairs_37.toInt → rp (fun k v => 0 ≤ v ∧ v ≤ 59) v_pairB_37 l1_37.toInt r32_0.toInt → rp (fun k v => 0 ≤ v ∧ v ≤ 59) v_pairB_37 l1_37.toInt v_pairs_37.toInt → rp (fun k v => v < k ∧ -1 ≤ v) v_pairFrom_37 0 0 → rp (fun k v => v < k ∧ -1 ≤ v) v_pairFrom_37 0 l1_37.toInt → rp (fun k v => v < k ∧ -1 ≤ v) v_pairFrom_37 l1_37.toInt 0 → rp (fun k v => v < k ∧ -1 ≤ v) v_pairFrom_37 l1_37.toInt l1_37.toInt → rp (fun k v => v < k ∧ -1 ≤ v) v_pairFrom_37 0 r32_0.toInt → rp (fun k v => v < k ∧ -1 ≤ v) v_pairFrom_37 0 v_pairs_37.toInt → rp (fun k v => v < k ∧ -1 ≤ v) v_pairFrom_37 l1_37.toInt r32_0.toInt → rp (fun k v => v < k ∧ -1 ≤ v) v_pairFrom_37 l1_37.toInt v_pairs_37.toInt → (v_pairs_37.toInt = zcB v_isPair_37 gP9) → (zPp v_pairA_37 v_pairB_37 (zg v_states 0) (zg v_states 1) v_pairs_37.toInt) → ((-1) * l1_37.toInt + 30500).toNat < n_37 → w_X12_findPairs_37 v_sorts v_leads v_sortA v_sortB v_sortSign Q n_37 l1_37 v_pairs_37 v_pairA_37 v_pairB_37 v_pairFrom_37 v_pairSign_37 v_isPair_37 := by
          intro n_37
          induction n_37 with
          | zero =>
            intro l1_37 v_pairs_37 v_pairA_37 v_pairB_37 v_pairFrom_37 v_pairSign_37 v_isPair_37 f18 f19 f20 f21 h22 h23 h24 h25 h26 h27 h28 h29 h30 h31 h32 h33 h34 h35 h36 h37 h38 h39 h40 h41 h42 h43 h44 h45 u37_0 u37_1 hm_37
            exfalso; omega
          | succ n_37 ih_37 =>
            intro l1_37 v_pairs_37 v_pairA_37 v_pairB_37 v_pairFrom_37 v_pairSign_37 v_isPair_37 f18 f19 f20 f21 h22 h23 h24 h25 h26 h27 h28 h29 h30 h31 h32 h33 h34 h35 h36 h37 h38 h39 h40 h41 h42 h43 h44 h45 u37_0 u37_1 hm_37
            unfold w_X12_findPairs_37
            unfold w_X12_findPairs_37B
            refine ⟨fun c42 => ?_, fun c42 => ?_⟩
            · have f46 : v_pairs_37.toInt ≤ l1_37.toInt := i_le (a := v_pairs_37.toInt) (b := l1_37.toInt) rfl rfl c42
              exact hq v_pairs_37 v_pairA_37 v_pairB_37 v_pairFrom_37 v_pairSign_37 v_isPair_37 (by omega) (by omega) (by omega) (by omega) (by omega) (by omega) (rp_mono h27 (by omega) (by omega)) (rp_mono h27 (by omega) (by omega)) (rp_mono h35 (by omega) (by omega)) (rp_mono h35 (by omega) (by omega)) (rp_mono h43 (by omega) (by omega)) (rp_mono h43 (by omega) (by omega)) (by assumption)
            · have f47 : l1_37.toInt < v_pairs_37.toInt := i_nle (a := v_pairs_37.toInt) (b := l1_37.toInt) rfl rfl c42
              have j_47 : ∀ n_47 : Nat, ∀ (l2_47 : Int32) (v_pairs_47 : Int32) (v_pairA_47 : Nat → Int32) (v_pairB_47 : Nat → Int32) (v_pairFrom_47 : Nat → Int32) (v_pairSign_47 : Nat → Int32) (v_isPair_47 : Nat → Bool), 0 ≤ l2_47.toInt → l2_47.toInt ≤ v_sorts.toInt → v_pairs_37.toInt ≤ v_pairs_47.toInt → v_pairs_47.toInt ≤ 3800 → rp (fun k v => 0 ≤ v ∧ v ≤ 59) v_pairA_47 0 0 → rp (fun k v => 0 ≤ v ∧ v ≤ 59) v_pairA_47 l2_47.toInt 0 → rp (fun k v => 0 ≤ v ∧ v ≤ 59) v_pairA_47 l2_47.toInt l2_47.toInt → rp (fun k v => 0 ≤ v ∧ v ≤ 59) v_pairA_47 0 l1_37.toInt → rp (fun k v => 0 ≤ v ∧ v ≤ 59) v_pairA_47 l2_47.toInt l1_37.toInt → rp (fun k v => 0 ≤ v ∧ v ≤ 59) v_pairA_47 l1_37.toInt 0 → rp (fun k v => 0 ≤ v ∧ v ≤ 59) v_pairA_47 l1_37.toInt l1_37.toInt → rp (fun k v => 0 ≤ v ∧ v ≤ 59) v_pairA_47 0 r32_0.toInt → rp (fun k v => 0 ≤ v ∧ v ≤ 59) v_pairA_47 l2_47.toInt r32_0.toInt → rp (fun k v => 0 ≤ v ∧ v ≤ 59) v_pairA_47 0 v_pairs_37.toInt → rp (fun k v => 0 ≤ v ∧ v ≤ 59) v_pairA_47 0 v_pairs_47.toInt → rp (fun k v => 0 ≤ v ∧ v ≤ 59) v_pairA_47 l2_47.toInt v_pairs_37.toInt → rp (fun k v => 0 ≤ v ∧ v ≤ 59) v_pairA_47 l2_47.toInt v_pairs_47.toInt → rp (fun k v => 0 ≤ v ∧ v ≤ 59) v_pairA_47 l1_37.toInt r32_0.toInt → rp (fun k v => 0 ≤ v ∧ v ≤ 59) v_pairA_47 l1_37.toInt v_pairs_37.toInt → rp (fun k v => 0 ≤ v ∧ v ≤ 59) v_pairA_47 l1_37.toInt v_pairs_47.toInt → rp (fun k v => 0 ≤ v ∧ v ≤ 59) v_pairB_47 0 0 → rp (fun k v => 0 ≤ v ∧ v ≤ 59) v_pairB_47 l2_47.toInt 0 → rp (fun k v => 0 ≤ v ∧ v ≤ 59) v_pairB_47 l2_47.toInt l2_47.toInt → rp (fun k v => 0 ≤ v ∧ v ≤ 59) v_pairB_47 0 l1_37.toInt → rp (fun k v => 0 ≤ v ∧ v ≤ 59) v_pairB_47 l2_47.toInt l1_37.toInt → rp (fun k v => 0 ≤ v ∧ v ≤ 59) v_pairB_47 l1_37.toInt 0 → rp (fun k v => 0 ≤ v ∧ v ≤ 59) v_pairB_47 l1_37.toInt l1_37.toInt → rp (fun k v => 0 ≤ v ∧ v ≤ 59) v_pairB_47 0 r32_0.toInt → rp (fun k v => 0 ≤ v ∧ v ≤ 59) v_pairB_47 l2_47.toInt r32_0.toInt → rp (fun k v => 0 ≤ v ∧ v ≤ 59) v_pairB_47 0 v_pairs_37.toInt → rp (fun k v => 0 ≤ v ∧ v ≤ 59) v_pairB_47 0 v_pairs_47.toInt → rp (fun k v => 0 ≤ v ∧ v ≤ 59) v_pairB_47 l2_47.toInt v_pairs_37.toInt → rp (fun k v => 0 ≤ v ∧ v ≤ 59) v_pairB_47 l2_47.toInt v_pairs_47.toInt → rp (fun k v => 0 ≤ v ∧ v ≤ 59) v_pairB_47 l1_37.toInt r32_0.toInt → rp (fun k v => 0 ≤ v ∧ v ≤ 59) v_pairB_47 l1_37.toInt v_pairs_37.toInt → rp (fun k v => 0 ≤ v ∧ v ≤ 59) v_pairB_47 l1_37.toInt v_pairs_47.toInt → rp (fun k v => v < k ∧ -1 ≤ v) v_pairFrom_47 0 0 → rp (fun k v => v < k ∧ -1 ≤ v) v_pairFrom_47 l2_47.toInt 0 → rp (fun k v => v < k ∧ -1 ≤ v) v_pairFrom_47 l2_47.toInt l2_47.toInt → rp (fun k v => v < k ∧ -1 ≤ v) v_pairFrom_47 0 l1_37.toInt → rp (fun k v => v < k ∧ -1 ≤ v) v_pairFrom_47 l2_47.toInt l1_37.toInt → rp (fun k v => v < k ∧ -1 ≤ v) v_pairFrom_47 l1_37.toInt 0 → rp (fun k v => v < k ∧ -1 ≤ v) v_pairFrom_47 l1_37.toInt l1_37.toInt → rp (fun k v => v < k ∧ -1 ≤ v) v_pairFrom_47 0 r32_0.toInt → rp (fun k v => v < k ∧ -1 ≤ v) v_pairFrom_47 l2_47.toInt r32_0.toInt → rp (fun k v => v < k ∧ -1 ≤ v) v_pairFrom_47 0 v_pairs_37.toInt → rp (fun k v => v < k ∧ -1 ≤ v) v_pairFrom_47 0 v_pairs_47.toInt → rp (fun k v => v < k ∧ -1 ≤ v) v_pairFrom_47 l2_47.toInt v_pairs_37.toInt → rp (fun k v => v < k ∧ -1 ≤ v) v_pairFrom_47 l2_47.toInt v_pairs_47.toInt → rp (fun k v => v < k ∧ -1 ≤ v) v_pairFrom_47 l1_37.toInt r32_0.toInt → rp (fun k v => v < k ∧ -1 ≤ v) v_pairFrom_47 l1_37.toInt v_pairs_37.toInt → rp (fun k v => v < k ∧ -1 ≤ v) v_pairFrom_47 l1_37.toInt v_pairs_47.toInt → (v_pairs_47.toInt = zcB v_isPair_47 gP9) → (zPp v_pairA_47 v_pairB_47 (zg v_states 0) (zg v_states 1) v_pairs_47.toInt) → ((-1) * l2_47.toInt + 500).toNat < n_47 → w_X12_findPairs_47 v_sorts v_leads v_sortA v_sortB v_sortSign Q (w_X12_findPairs_37 v_sorts v_leads v_sortA v_sortB v_sortSign Q n_37) l1_37 n_47 l2_47 v_pairs_47 v_pairA_47 v_pairB_47 v_pairFrom_47 v_pairSign_47 v_isPair_47 := by
                intro n_47
                induction n_47 with
                | zero =>
                  intro l2_47 v_pairs_47 v_pairA_47 v_pairB_47 v_pairFrom_47 v_pairSign_47 v_isPair_47 f48 f49 f50 f51 h52 h53 h54 h55 h56 h57 h58 h59 h60 h61 h62 h63 h64 h65 h66 h67 h68 h69 h70 h71 h72 h73 h74 h75 h76 h77 h78 h79 h80 h81 h82 h83 h84 h85 h86 h87 h88 h89 h90 h91 h92 h93 h94 h95 h96 h97 h98 h99 u47_0 u47_1 hm_47
                  exfalso; omega
                | succ n_47 ih_47 =>
                  intro l2_47 v_pairs_47 v_pairA_47 v_pairB_47 v_pairFrom_47 v_pairSign_47 v_isPair_47 f48 f49 f50 f51 h52 h53 h54 h55 h56 h57 h58 h59 h60 h61 h62 h63 h64 h65 h66 h67 h68 h69 h70 h71 h72 h73 h74 h75 h76 h77 h78 h79 h80 h81 h82 h83 h84 h85 h86 h87 h88 h89 h90 h91 h92 h93 h94 h95 h96 h97 h98 h99 u47_0 u47_1 hm_47
                  unfold w_X12_findPairs_47
                  unfold w_X12_findPairs_47B
                  refine ⟨fun c52 => ?_, fun c52 => ?_⟩
                  · have f100 : v_sorts.toInt ≤ l2_47.toInt := i_le (a := v_sorts.toInt) (b := l2_47.toInt) rfl rfl c52
                    intro x120 ex120
                    have f101 : x120.toInt = l1_37.toInt + 1 := i_add (a := l1_37.toInt) (b := 1) ex120 rfl rfl (by omega) (by omega)
                    exact ih_37 x120 v_pairs_47 v_pairA_47 v_pairB_47 v_pairFrom_47 v_pairSign_47 v_isPair_47  (by omega) (by omega) (by omega) (by omega) (rp_mono h62 (by omega) (by omega)) (rp_mono h62 (by omega) (by omega)) (rp_mono h67 (by omega) (by omega)) (rp_mono h67 (by omega) (by omega)) (rp_mono h62 (by omega) (by omega)) (rp_mono h62 (by omega) (by omega)) (rp_mono h67 (by omega) (by omega)) (rp_mono h67 (by omega) (by omega)) (rp_mono h78 (by omega) (by omega)) (rp_mono h78 (by omega) (by omega)) (rp_mono h83 (by omega) (by omega)) (rp_mono h83 (by omega) (by omega)) (rp_mono h78 (by omega) (by omega)) (rp_mono h78 (by omega) (by omega)) (rp_mono h83 (by omega) (by omega)) (rp_mono h83 (by omega) (by omega)) (rp_mono h94 (by omega) (by omega)) (rp_mono h94 (by omega) (by omega)) (rp_mono h99 (by omega) (by omega)) (rp_mono h99 (by omega) (by omega)) (rp_mono h94 (by omega) (by omega)) (rp_mono h94 (by omega) (by omega)) (rp_mono h99 (by omega) (by omega)) (rp_mono h99 (by omega) (by omega)) (by assumption) (by assumption) (by have h8_0 := i_rng l1_37; have h8_1 := i_rng x120; omega)
                  · have f102 : l2_47.toInt < v_sorts.toInt := i_nle (a := v_sorts.toInt) (b := l2_47.toInt) rfl rfl c52
                    refine ⟨i_in (by omega) (by omega), ?_⟩
                    intro x68 ex68
                    have f103 : 0 ≤ x68.toInt ∧ x68.toInt ≤ 59 := by have h9 := rp_get (P := (fun k v => 0 ≤ v ∧ v ≤ 59)) (a := l1_37.toInt) h61 ex68 rfl (by omega) (by omega) (by omega); omega
                    have f104 : x68.toInt + 1 ≤ (zg v_states 0 : Int) := (zPp_a u47_1 ex68 (by omega) (by omega)).2
                    intro x69 ex69
                    have f105 : x69.toInt = 500 * x68.toInt := i_mul (a := 500) (b := x68.toInt) ex69 rfl rfl (by omega) (by omega)
                    refine ⟨i_in (by omega) (by omega), ?_⟩
                    intro x75 ex75
                    have f106 : (0 ≤ x75.toInt ∧ x75.toInt + 1 ≤ (zg v_classes 0 : Int)) := zSo_a u2 ex75 (by omega) (by omega)
                    intro x76 ex76
                    have f107 : x76.toInt = x69.toInt + x75.toInt := i_add (a := x69.toInt) (b := x75.toInt) ex76 rfl rfl (by omega) (by omega)
                    refine ⟨i_in (by omega) (by omega), ?_⟩
                    intro x77 ex77
                    have f108 : (0 ≤ x77.toInt ∧ x77.toInt + 1 ≤ (zg v_states 0 : Int)) := zTb_l (q := x68.toInt) (c := x75.toInt) u0 ex77 (by omega) (by omega) (by omega) (by omega) (by omega)
                    refine ⟨i_in (by omega) (by omega), ?_⟩
                    intro x93 ex93
                    have f109 : 0 ≤ x93.toInt ∧ x93.toInt ≤ 59 := by have h9 := rp_get (P := (fun k v => 0 ≤ v ∧ v ≤ 59)) (a := l1_37.toInt) h77 ex93 rfl (by omega) (by omega) (by omega); omega
                    have f110 : x93.toInt + 1 ≤ (zg v_states 1 : Int) := (zPp_b u47_1 ex93 (by omega) (by omega)).2
                    intro x94 ex94
                    have f111 : x94.toInt = 500 * x93.toInt := i_mul (a := 500) (b := x93.toInt) ex94 rfl rfl (by omega) (by omega)
                    intro x95 ex95
                    have f112 : x95.toInt = 30500 + x94.toInt := i_add (a := 30500) (b := x94.toInt) ex95 rfl rfl (by omega) (by omega)
                    refine ⟨i_in (by omega) (by omega), ?_⟩
                    intro x101 ex101
                    have f113 : (0 ≤ x101.toInt ∧ x101.toInt + 1 ≤ (zg v_classes 1 : Int)) := zSo_b u2 ex101 (by omega) (by omega)
                    intro x102 ex102
                    have f114 : x102.toInt = x95.toInt + x101.toInt := i_add (a := x95.toInt) (b := x101.toInt) ex102 rfl rfl (by omega) (by omega)
                    refine ⟨i_in (by omega) (by omega), ?_⟩
                    intro x103 ex103
                    have f115 : (0 ≤ x103.toInt ∧ x103.toInt + 1 ≤ (zg v_states 1 : Int)) := zTb_l (q := x93.toInt) (c := x101.toInt) u1 ex103 (by omega) (by omega) (by omega) (by omega) (by omega)
                    refine ⟨i_in (by omega) (by omega), ?_⟩
                    intro x110 ex110
                    refine ok_X12_meet (gP9 := gP9) (gs0 := (zg v_states 0)) (gs1 := (zg v_states 1)) (by omega) (by omega) (by omega) (by omega) (by omega) (by omega) (by omega) (by omega) (rp_mono h62 (by omega) (by omega)) (rp_mono h78 (by omega) (by omega)) (rp_mono h94 (by omega) (by omega)) (by exact u3) (by first | assumption | omega) (by first | assumption | omega) (by first | assumption | omega) (by first | assumption | omega) (fun r111_0 r111_1 r111_2 r111_3 r111_4 r111_5 f116 f117 h118 h119 h120 h121 h122 h123 u111_0 u111_1 => ?_)
                    intro x114 ex114
                    have f124 : x114.toInt = l2_47.toInt + 1 := i_add (a := l2_47.toInt) (b := 1) ex114 rfl rfl (by omega) (by omega)
                    exact ih_47 x114 r111_0 r111_1 r111_2 r111_3 r111_4 r111_5  (by omega) (by omega) (by omega) (by omega) (rp_mono h119 (by omega) (by omega)) (rp_mono h119 (by omega) (by omega)) (rp_nil (by omega)) (rp_mono h119 (by omega) (by omega)) (rp_mono h119 (by omega) (by omega)) (rp_mono h119 (by omega) (by omega)) (rp_mono h119 (by omega) (by omega)) (rp_mono h119 (by omega) (by omega)) (rp_mono h119 (by omega) (by omega)) (rp_mono h119 (by omega) (by omega)) (rp_mono h119 (by omega) (by omega)) (rp_mono h119 (by omega) (by omega)) (rp_mono h119 (by omega) (by omega)) (rp_mono h119 (by omega) (by omega)) (rp_mono h119 (by omega) (by omega)) (rp_mono h119 (by omega) (by omega)) (rp_mono h121 (by omega) (by omega)) (rp_mono h121 (by omega) (by omega)) (rp_nil (by omega)) (rp_mono h121 (by omega) (by omega)) (rp_mono h121 (by omega) (by omega)) (rp_mono h121 (by omega) (by omega)) (rp_mono h121 (by omega) (by omega)) (rp_mono h121 (by omega) (by omega)) (rp_mono h121 (by omega) (by omega)) (rp_mono h121 (by omega) (by omega)) (rp_mono h121 (by omega) (by omega)) (rp_mono h121 (by omega) (by omega)) (rp_mono h121 (by omega) (by omega)) (rp_mono h121 (by omega) (by omega)) (rp_mono h121 (by omega) (by omega)) (rp_mono h121 (by omega) (by omega)) (rp_mono h123 (by omega) (by omega)) (rp_mono h123 (by omega) (by omega)) (rp_nil (by omega)) (rp_mono h123 (by omega) (by omega)) (rp_mono h123 (by omega) (by omega)) (rp_mono h123 (by omega) (by omega)) (rp_mono h123 (by omega) (by omega)) (rp_mono h123 (by omega) (by omega)) (rp_mono h123 (by omega) (by omega)) (rp_mono h123 (by omega) (by omega)) (rp_mono h123 (by omega) (by omega)) (rp_mono h123 (by omega) (by omega)) (rp_mono h123 (by omega) (by omega)) (rp_mono h123 (by omega) (by omega)) (rp_mono h123 (by omega) (by omega)) (rp_mono h123 (by omega) (by omega)) (by assumption) (by assumption) (by have h8_0 := i_rng l2_47; have h8_1 := i_rng x114; omega)
              exact ⟨(500 : Int).toNat + 1, j_47   ((500 : Int).toNat + 1) 0 v_pairs_37 v_pairA_37 v_pairB_37 v_pairFrom_37 v_pairSign_37 v_isPair_37  (by omega) (by omega) (by omega) (by omega) (rp_mono h27 (by omega) (by omega)) (rp_mono h27 (by omega) (by omega)) (rp_mono h27 (by omega) (by omega)) (rp_mono h27 (by omega) (by omega)) (rp_mono h27 (by omega) (by omega)) (rp_mono h29 (by omega) (by omega)) (rp_mono h29 (by omega) (by omega)) (rp_mono h27 (by omega) (by omega)) (rp_mono h27 (by omega) (by omega)) (rp_mono h27 (by omega) (by omega)) (rp_mono h27 (by omega) (by omega)) (rp_mono h27 (by omega) (by omega)) (rp_mono h27 (by omega) (by omega)) (rp_mono h29 (by omega) (by omega)) (rp_mono h29 (by omega) (by omega)) (rp_mono h29 (by omega) (by omega)) (rp_mono h35 (by omega) (by omega)) (rp_mono h35 (by omega) (by omega)) (rp_mono h35 (by omega) (by omega)) (rp_mono h35 (by omega) (by omega)) (rp_mono h35 (by omega) (by omega)) (rp_mono h37 (by omega) (by omega)) (rp_mono h37 (by omega) (by omega)) (rp_mono h35 (by omega) (by omega)) (rp_mono h35 (by omega) (by omega)) (rp_mono h35 (by omega) (by omega)) (rp_mono h35 (by omega) (by omega)) (rp_mono h35 (by omega) (by omega)) (rp_mono h35 (by omega) (by omega)) (rp_mono h37 (by omega) (by omega)) (rp_mono h37 (by omega) (by omega)) (rp_mono h37 (by omega) (by omega)) (rp_mono h43 (by omega) (by omega)) (rp_mono h43 (by omega) (by omega)) (rp_mono h43 (by omega) (by omega)) (rp_mono h43 (by omega) (by omega)) (rp_mono h43 (by omega) (by omega)) (rp_mono h45 (by omega) (by omega)) (rp_mono h45 (by omega) (by omega)) (rp_mono h43 (by omega) (by omega)) (rp_mono h43 (by omega) (by omega)) (rp_mono h43 (by omega) (by omega)) (rp_mono h43 (by omega) (by omega)) (rp_mono h43 (by omega) (by omega)) (rp_mono h43 (by omega) (by omega)) (rp_mono h45 (by omega) (by omega)) (rp_mono h45 (by omega) (by omega)) (rp_mono h45 (by omega) (by omega)) (by assumption) (by assumption) (by omega)⟩
        exact ⟨(30500 : Int).toNat + 1, j_37   ((30500 : Int).toNat + 1) 0 r32_0 r32_1 r32_2 r32_3 r32_4 r32_5  (by omega) (by omega) (by omega) (by omega) (rp_mono h13 (by omega) (by omega)) (rp_mono h13 (by omega) (by omega)) (rp_mono h13 (by omega) (by omega)) (rp_mono h13 (by omega) (by omega)) (rp_mono h13 (by omega) (by omega)) (rp_mono h13 (by omega) (by omega)) (rp_mono h13 (by omega) (by omega)) (rp_mono h13 (by omega) (by omega)) (rp_mono h15 (by omega) (by omega)) (rp_mono h15 (by omega) (by omega)) (rp_mono h15 (by omega) (by omega)) (rp_mono h15 (by omega) (by omega)) (rp_mono h15 (by omega) (by omega)) (rp_mono h15 (by omega) (by omega)) (rp_mono h15 (by omega) (by omega)) (rp_mono h15 (by omega) (by omega)) (rp_mono h17 (by omega) (by omega)) (rp_mono h17 (by omega) (by omega)) (rp_mono h17 (by omega) (by omega)) (rp_mono h17 (by omega) (by omega)) (rp_mono h17 (by omega) (by omega)) (rp_mono h17 (by omega) (by omega)) (rp_mono h17 (by omega) (by omega)) (rp_mono h17 (by omega) (by omega)) (by assumption) (by assumption) (by omega)⟩
      · have f125 : l1_2.toInt < 3800 := i_nle (a := 3800) (b := l1_2.toInt) rfl rfl c6
        refine ⟨i_in (by omega) (by omega), ?_⟩
        intro g15 eg15
        intro x16 ex16
        have f126 : x16.toInt = l1_2.toInt + 1 := i_add (a := l1_2.toInt) (b := 1) ex16 rfl rfl (by omega) (by omega)
        exact ih_2 x16 g15  (by omega) (by omega) (by first | exact zOff_s u2_0 eg15 (by decide) (by omega) (by omega) | exact zOff_0) (by have h8_0 := i_rng l1_2; have h8_1 := i_rng x16; omega)
  exact ⟨(3800 : Int).toNat + 1, j_2   ((3800 : Int).toNat + 1) 0 v_isPair  (by omega) (by omega) (by first | exact zOff_s u2_0 eg15 (by decide) (by omega) (by omega) | exact zOff_0) (by omega)⟩
