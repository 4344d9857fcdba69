set_option maxHeartbeats 4000000 in
theorem ok_X12_goesBack {v_trail : Int32} {v_choices : Int32} {v_now : Int32} {v_spot : Int32} {v_steps : Int32} {v_limit : Int32} {v_isOver : Bool} {v_actA : Nat → Int32} {v_reg : Nat → Int32} {v_trailOf : Nat → Int32} {v_trailOld : Nat → Int32} {v_choiceSort : Nat → Int32} {v_choiceAct : Nat → Int32} {v_choicePlace : Nat → Int32} {v_choiceTrail : Nat → Int32} {gfi : Int} {gC : Int → zT} {gN : Int} {gfr : Int} {glg : Int} {gb1 : Int} {gb2 : Int} {gg : Int} {gPsi : Int} {gbs : Int} {gn9 : Int} {v_act : Nat → Int32} {v_actB : Nat → Int32} {v_labelAt : Nat → Int32} {v_sort : Nat → Int32} {v_value : Nat → Int32} {Q : Int32 → Int32 → Int32 → Int32 → Int32 → Int32 → Bool → (Nat → Int32) → (Nat → Int32) → (Nat → Int32) → (Nat → Int32) → (Nat → Int32) → (Nat → Int32) → (Nat → Int32) → Prop} (a0 : 0 ≤ v_trail.toInt) (a1 : v_trail.toInt ≤ 119990) (a2 : 0 ≤ v_choices.toInt) (a3 : v_choices.toInt ≤ 199990) (a4 : 0 ≤ v_steps.toInt) (a5 : v_steps.toInt ≤ 2000000) (a6 : v_steps.toInt ≤ v_limit.toInt) (b0 : rp (fun k v => 0 ≤ v ∧ v ≤ 1129) v_trailOf 0 v_trail.toInt) (u0 : zMa gfi v_act v_actA gC gN gfr glg gb1 gb2 gg v_reg v_trailOf v_trailOld v_choiceSort v_choiceAct v_choicePlace v_choiceTrail v_trail.toInt v_choices.toInt v_now.toInt v_spot.toInt v_steps.toInt gPsi 0) (u1 : zPr v_sort v_value v_act v_actA v_actB v_labelAt gbs gn9 gfi gN gC) (u2 : zGg gfi gC gN gg) (u3 : 0 ≤ gfr) (u4 : glg ≤ 100) (hq : ∀ (r : Int32) (ov_trail : Int32) (ov_choices : Int32) (ov_now : Int32) (ov_spot : Int32) (ov_steps : Int32) (ov_isOver : Bool) (ov_reg : Nat → Int32) (ov_trailOf : Nat → Int32) (ov_trailOld : Nat → Int32) (ov_choiceSort : Nat → Int32) (ov_choiceAct : Nat → Int32) (ov_choicePlace : Nat → Int32) (ov_choiceTrail : Nat → Int32), ov_choices.toInt ≤ v_choices.toInt → v_steps.toInt ≤ ov_steps.toInt → 0 ≤ r.toInt → r.toInt ≤ 1 → 0 ≤ ov_trail.toInt → ov_trail.toInt ≤ 119999 → 0 ≤ ov_choices.toInt → ov_steps.toInt ≤ 1073741823 → ((r.toInt ≠ 0) ∨ ((bz ov_isOver).toInt = (bz v_isOver).toInt)) → ((r.toInt = 0) ∨ (ov_steps.toInt ≤ v_steps.toInt + 1)) → ((r.toInt = 0) ∨ (ov_steps.toInt ≤ v_limit.toInt)) → ov_steps.toInt ≤ v_steps.toInt + 1 → ov_steps.toInt ≤ v_limit.toInt → rp (fun k v => 0 ≤ v ∧ v ≤ 1129) ov_trailOf 0 ov_trail.toInt → rp (fun k v => 0 ≤ v ∧ v ≤ 1129) ov_trailOf r.toInt ov_trail.toInt → (r.toInt = 0 ∨ ov_isOver = true ∨ zMa gfi v_act v_actA gC gN gfr glg gb1 gb2 gg ov_reg ov_trailOf ov_trailOld ov_choiceSort ov_choiceAct ov_choicePlace ov_choiceTrail ov_trail.toInt ov_choices.toInt ov_now.toInt ov_spot.toInt ov_steps.toInt gPsi 1) → (gfi = 1 → ov_steps.toInt = v_steps.toInt) → (r.toInt = 0 → ov_isOver = v_isOver ∧ ov_steps = v_steps) → Q r ov_trail ov_choices ov_now ov_spot ov_steps ov_isOver ov_reg ov_trailOf ov_trailOld ov_choiceSort ov_choiceAct ov_choicePlace ov_choiceTrail) : w_X12_goesBack v_trail v_choices v_now v_spot v_steps v_limit v_isOver v_actA v_reg v_trailOf v_trailOld v_choiceSort v_choiceAct v_choicePlace v_choiceTrail Q := by
  have q_t : (bz true).toInt = 1 := rfl
  have q_f : (bz false).toInt = 0 := rfl
  have q_0 : (0 : Int32).toInt = 0 := rfl
  have q_1 : (1 : Int32).toInt = 1 := rfl
  unfold w_X12_goesBack
  obtain ⟨S9, hS9, hC9, _⟩ := u0
  rw [if_pos rfl, Int.add_zero] at hS9
  have hk9 := zk_le (φ := gfi) (show v_steps.toInt ≤ v_steps.toInt + 1 by omega) (by omega)
  refine ⟨fun c4 => ?_, fun c4 => ?_⟩
  · have f1 : v_choices.toInt ≠ 0 := i_ne (a := v_choices.toInt) (b := 0) rfl rfl c4
    intro x15 ex15
    have f2 : x15.toInt = v_choices.toInt - 1 := i_sub (a := v_choices.toInt) (b := 1) ex15 rfl rfl (by omega) (by omega)
    have j_19 : ∀ n_19 : Nat, ∀ (v_trail_19 : Int32) (v_reg_19 : Nat → Int32), 0 ≤ v_trail_19.toInt → v_trail_19.toInt ≤ v_trail.toInt → rp (fun k v => 0 ≤ v ∧ v ≤ 1129) v_trailOf 0 v_trail_19.toInt → (zCs (zP gfi v_act v_actA gC gN gfr glg (52 * zk gfi v_steps.toInt + gb1) (33 * zk gfi v_steps.toInt + gb2)) (zOm gfi gC) v_trailOf v_trailOld v_choiceSort v_choiceAct v_choicePlace v_choiceTrail v_trail_19.toInt v_choices.toInt (zG v_reg_19) S9) → (v_trail_19.toInt + 2147483649).toNat < n_19 → w_X12_goesBack_19 v_limit v_actA Q x15 v_now v_spot v_steps v_isOver v_trailOf v_trailOld v_choiceSort v_choiceAct v_choicePlace v_choiceTrail n_19 v_trail_19 v_reg_19 := by
      intro n_19
      induction n_19 with
      | zero =>
        intro v_trail_19 v_reg_19 f3 f4 h5 u19_0 hm_19
        exfalso; omega
      | succ n_19 ih_19 =>
        intro v_trail_19 v_reg_19 f3 f4 h5 u19_0 hm_19
        unfold w_X12_goesBack_19
        unfold w_X12_goesBack_19B
        refine ⟨i_in (by omega) (by omega), ?_⟩
        intro x31 ex31
        have f6 : (0 ≤ x31.toInt ∧ x31.toInt ≤ v_trail_19.toInt) := zB_c u19_0 ex31 (by omega) (by omega)
        refine ⟨fun c32 => ?_, fun c32 => ?_⟩
        · have f7 : v_trail_19.toInt ≤ x31.toInt := i_le (a := v_trail_19.toInt) (b := x31.toInt) rfl rfl c32
          obtain ⟨ht9, hD9⟩ := zB_t (m' := x15.toInt) u19_0 ex31 zOm_0 (by omega) (by omega) (by omega) (by omega)
          have hr9 := zP_r ht9 u1 u3
          refine ⟨i_in (by omega) (by omega), ?_⟩
          intro x80 ex80
          have h80 := zg_at ex80
          have f8 : (0 ≤ x80.toInt ∧ x80.toInt ≤ 2998) := by have h9 := hr9.1; omega
          refine ⟨i_in (by omega) (by omega), ?_⟩
          intro x93 ex93
          have h93 := zg_at ex93
          have f9 : (0 ≤ x93.toInt ∧ x93.toInt ≤ 100) := by have h9 := hr9.2.1; omega
          refine ⟨i_in (by omega) (by omega), ?_⟩
          intro x105 ex105
          have h105 := zg_at ex105
          rw [← h80, ← h93, ← h105] at ht9
          rw [← h80, ← h93, ← h105] at hr9
          rw [← h105, ← h80] at hD9
          have j_172 : ∀ (v_trail_172 : Int32) (v_choices_172 : Int32) (v_now_172 : Int32) (v_spot_172 : Int32) (v_steps_172 : Int32) (v_isOver_172 : Bool) (v_reg_172 : Nat → Int32) (v_trailOf_172 : Nat → Int32) (v_trailOld_172 : Nat → Int32) (v_choiceSort_172 : Nat → Int32) (v_choiceAct_172 : Nat → Int32) (v_choicePlace_172 : Nat → Int32) (v_choiceTrail_172 : Nat → Int32), v_choices_172.toInt ≤ v_choices.toInt → v_steps.toInt ≤ v_steps_172.toInt → v_steps_172.toInt ≤ v_steps.toInt + 1 → v_steps_172.toInt ≤ v_limit.toInt → 0 ≤ v_trail_172.toInt → 0 ≤ v_choices_172.toInt → v_trail_172.toInt ≤ 119999 → 0 ≤ v_now_172.toInt → v_now_172.toInt ≤ 2999 → rp (fun k v => 0 ≤ v ∧ v ≤ 1129) v_trailOf_172 0 v_trail_19.toInt → rp (fun k v => 0 ≤ v ∧ v ≤ 1129) v_trailOf_172 0 v_trail_172.toInt → (v_isOver_172 = true ∨ zMa gfi v_act v_actA gC gN gfr glg gb1 gb2 gg v_reg_172 v_trailOf_172 v_trailOld_172 v_choiceSort_172 v_choiceAct_172 v_choicePlace_172 v_choiceTrail_172 v_trail_172.toInt v_choices_172.toInt v_now_172.toInt v_spot_172.toInt v_steps_172.toInt gPsi 1) → (gfi = 1 → v_steps_172.toInt = v_steps.toInt) → w_X12_goesBack_172 Q v_trail_172 v_choices_172 v_now_172 v_spot_172 v_steps_172 v_isOver_172 v_reg_172 v_trailOf_172 v_trailOld_172 v_choiceSort_172 v_choiceAct_172 v_choicePlace_172 v_choiceTrail_172 := by
            intro v_trail_172 v_choices_172 v_now_172 v_spot_172 v_steps_172 v_isOver_172 v_reg_172 v_trailOf_172 v_trailOld_172 v_choiceSort_172 v_choiceAct_172 v_choicePlace_172 v_choiceTrail_172 f10 f11 f12 f13 f14 f15 f16 f17 f18 h19 h20 u172_0 u172_1
            unfold w_X12_goesBack_172
            exact hq 1 v_trail_172 v_choices_172 v_now_172 v_spot_172 v_steps_172 v_isOver_172 v_reg_172 v_trailOf_172 v_trailOld_172 v_choiceSort_172 v_choiceAct_172 v_choicePlace_172 v_choiceTrail_172 (by omega) (by omega) (by omega) (by omega) (by omega) (by omega) (by omega) (by omega) (by omega) (by omega) (by omega) (by omega) (by omega) (rp_mono h20 (by omega) (by omega)) (rp_mono h20 (by omega) (by omega)) (by exact Or.inr u172_0) (by exact u172_1) (by exact fun z => absurd z (by decide))
          refine ⟨fun c107 => ?_, fun c107 => ?_⟩
          · have f21 : x105.toInt ≠ 1 := i_ne (a := x105.toInt) (b := 1) rfl rfl c107
            refine ⟨i_in (by omega) (by omega), ?_⟩
            intro x134 ex134
            have f22 : x134.toInt = x105.toInt := congrArg Int32.toInt (ex134.trans ex105.symm)
            have h134 : x134 = x105 := ex134.trans ex105.symm
            rw [← h134] at ht9 hD9 hr9
            refine ⟨fun c136 => ?_, fun c136 => ?_⟩
            · have f23 : x134.toInt ≠ 2 := i_ne (a := x134.toInt) (b := 2) rfl rfl c136
              exact j_172 v_trail_19 x15 x80 x93 v_steps v_isOver v_reg_19 v_trailOf v_trailOld v_choiceSort v_choiceAct v_choicePlace v_choiceTrail (by omega) (by omega) (by omega) (by omega) (by omega) (by omega) (by omega) (by omega) (by omega) (rp_mono h5 (by omega) (by omega)) (rp_mono h5 (by omega) (by omega)) (by first | exact zB_1 u1 hS9 ht9 u120_0 u2 (by omega) (zg_at ex119) (zov (by omega)) | exact zB_2 u1 hS9 ht9 u169_0 u2 u3 (by omega) h168 (by omega) (by omega) (zov (by omega)) | exact Or.inr (zB_0 hS9 ht9 hD9 (by omega) (by omega))) (by first | exact fun _ => rfl | exact fun z => absurd (zP_f ht9 u1 (by omega)) (by omega))
            · have f24 : x134.toInt = 2 := i_eq (a := x134.toInt) (b := 2) rfl rfl c136
              refine ⟨i_in (by omega) (by omega), ?_⟩
              intro x148 ex148
              have f25 : (0 ≤ x148.toInt ∧ x148.toInt ≤ 219) := by have h9 := (hr9.2.2.2 (by omega)).1; have h8 := zg_at ex148; omega
              refine ⟨i_in (by omega) (by omega), ?_⟩
              intro x164 ex164
              have f26 : x164.toInt = x148.toInt := congrArg Int32.toInt (ex164.trans ex148.symm)
              have f27 : (0 ≤ x164.toInt ∧ x164.toInt ≤ 219) := by have h9 := (hr9.2.2.2 (by omega)).1; have h8 := zg_at ex164; omega
              intro x165 ex165
              have f28 : x165.toInt = 910 + x164.toInt := i_add (a := 910) (b := x164.toInt) ex165 rfl rfl (by omega) (by omega)
              refine ⟨i_in (by omega) (by omega), ?_⟩
              intro x166 ex166
              have h164 := zg_at ex164
              have h166 : x166.toInt = zG v_reg_19 (910 + zg v_actA x80.toInt) := (by rw [zG_at (by omega)]; exact zg_at2 ex166 (by omega))
              have h167 := (hr9.2.2.2 (by omega)).2
              have h168 := zg_at ex148
              have f29 : (1 ≤ x166.toInt ∧ x166.toInt ≤ 100) := by omega
              intro x168 ex168
              have f30 : x168.toInt = x166.toInt - 1 := i_sub (a := x166.toInt) (b := 1) ex168 rfl rfl (by omega) (by omega)
              refine ok_X12_tryBehind (gPP := (zP gfi v_act v_actA gC gN gfr glg (52 * zk gfi (v_steps.toInt + 1) + gb1) (33 * zk gfi (v_steps.toInt + 1) + gb2))) (gOm := (zOm gfi gC)) (gS := (S9 - zOm gfi gC x134.toInt x80.toInt)) (by omega) (by omega) (by omega) (by omega) (by omega) (by omega) (by omega) (by omega) (by omega) (by omega) (by omega) (by omega) (by omega) (rp_mono h5 (by omega) (by omega)) (by exact zCs_mono hD9 (zP_m (by omega) (by omega)) (Int.le_refl _)) (by intro t9 ht8 ht7 hq8; exact zB_p u1 ht9 u3 (by omega) h168 hq8 (by omega) (by omega)) (fun r169_0 r169_1 r169_2 r169_3 r169_4 r169_5 r169_6 r169_7 r169_8 r169_9 r169_10 r169_11 r169_12 f31 f32 f33 f34 f35 f36 f37 f38 f39 f40 f41 f42 f43 f44 f45 h46 h47 u169_0 => ?_)
              exact j_172 r169_0 r169_1 r169_2 r169_3 r169_4 r169_5 r169_6 r169_7 r169_8 r169_9 r169_10 r169_11 r169_12 (by omega) (by omega) (by omega) (by omega) (by omega) (by omega) (by omega) (by omega) (by omega) (rp_mono h47 (by omega) (by omega)) (rp_mono h47 (by omega) (by omega)) (by first | exact zB_1 u1 hS9 ht9 u120_0 u2 (by omega) (zg_at ex119) (zov (by omega)) | exact zB_2 u1 hS9 ht9 u169_0 u2 u3 (by omega) h168 (by omega) (by omega) (zov (by omega)) | exact Or.inr (zB_0 hS9 ht9 hD9 (by omega) (by omega))) (by first | exact fun _ => rfl | exact fun z => absurd (zP_f ht9 u1 (by omega)) (by omega))
          · have f48 : x105.toInt = 1 := i_eq (a := x105.toInt) (b := 1) rfl rfl c107
            refine ⟨i_in (by omega) (by omega), ?_⟩
            intro x119 ex119
            have f49 : (0 ≤ x119.toInt ∧ x119.toInt ≤ 219) := by have h9 := hr9.2.2.1 (by omega); have h8 := zg_at ex119; omega
            refine ok_X12_beginTurn (gPP := (zP gfi v_act v_actA gC gN gfr glg (52 * zk gfi (v_steps.toInt + 1) + gb1) (33 * zk gfi (v_steps.toInt + 1) + gb2))) (gOm := (zOm gfi gC)) (gS := (S9 - zOm gfi gC x105.toInt x80.toInt)) (v_choiceSort := v_choiceSort) (v_choiceAct := v_choiceAct) (v_choicePlace := v_choicePlace) (v_choiceTrail := v_choiceTrail) (v_choices := x15) (by omega) (by omega) (by omega) (by omega) (by omega) (by omega) (by omega) (by omega) (by omega) (rp_mono h5 (by omega) (by omega)) (by exact zCs_mono hD9 (zP_m (by omega) (by omega)) (Int.le_refl _)) (fun r120_0 r120_1 r120_2 r120_3 r120_4 r120_5 r120_6 f50 f51 f52 f53 f54 f55 f56 f57 f58 f59 f60 f61 f62 h63 h64 u120_0 => ?_)
            exact j_172 r120_0 x15 r120_1 x93 r120_2 r120_3 r120_4 r120_5 r120_6 v_choiceSort v_choiceAct v_choicePlace v_choiceTrail (by omega) (by omega) (by omega) (by omega) (by omega) (by omega) (by omega) (by omega) (by omega) (rp_mono h64 (by omega) (by omega)) (rp_mono h64 (by omega) (by omega)) (by first | exact zB_1 u1 hS9 ht9 u120_0 u2 (by omega) (zg_at ex119) (zov (by omega)) | exact zB_2 u1 hS9 ht9 u169_0 u2 u3 (by omega) h168 (by omega) (by omega) (zov (by omega)) | exact Or.inr (zB_0 hS9 ht9 hD9 (by omega) (by omega))) (by first | exact fun _ => rfl | exact fun z => absurd (zP_f ht9 u1 (by omega)) (by omega))
        · have f65 : x31.toInt < v_trail_19.toInt := i_nle (a := v_trail_19.toInt) (b := x31.toInt) rfl rfl c32
          intro x41 ex41
          have f66 : x41.toInt = v_trail_19.toInt - 1 := i_sub (a := v_trail_19.toInt) (b := 1) ex41 rfl rfl (by omega) (by omega)
          refine ⟨i_in (by omega) (by omega), ?_⟩
          intro x57 ex57
          have f67 : 0 ≤ x57.toInt ∧ x57.toInt ≤ 1129 := by have h9 := rp_get (P := (fun k v => 0 ≤ v ∧ v ≤ 1129)) (a := x41.toInt) b0 ex57 rfl (by omega) (by omega) (by omega); omega
          refine ⟨i_in (by omega) (by omega), ?_⟩
          intro x66 ex66
          refine ⟨i_in (by omega) (by omega), ?_⟩
          intro g67 eg67
          exact ih_19 x41 g67  (by omega) (by omega) (rp_mono h5 (by omega) (by omega)) (by first | exact hC9 | exact zB_r u19_0 ex57 ex66 eg67 ex31 (by omega) (by omega) (by omega) (by omega) (by omega)) (by have h8_0 := i_rng v_trail_19; have h8_1 := i_rng x41; omega)
    exact ⟨(v_trail.toInt + 2147483649).toNat + 1, j_19   ((v_trail.toInt + 2147483649).toNat + 1) v_trail v_reg  (by omega) (by omega) (rp_mono b0 (by omega) (by omega)) (by first | exact hC9 | exact zB_r u19_0 ex57 ex66 eg67 ex31 (by omega) (by omega) (by omega) (by omega) (by omega)) (by omega)⟩
  · have f68 : v_choices.toInt = 0 := i_eq (a := v_choices.toInt) (b := 0) rfl rfl c4
    exact hq 0 v_trail v_choices v_now v_spot v_steps v_isOver v_reg v_trailOf v_trailOld v_choiceSort v_choiceAct v_choicePlace v_choiceTrail (by omega) (by omega) (by omega) (by omega) (by omega) (by omega) (by omega) (by omega) (by omega) (by omega) (by omega) (by omega) (by omega) (rp_mono b0 (by omega) (by omega)) (rp_mono b0 (by omega) (by omega)) (by exact Or.inl rfl) (by exact fun _ => rfl) (by exact fun _ => ⟨rfl, rfl⟩)
set_option maxHeartbeats 4000000 in
theorem ok_X12_isDone {p1 : Int32} {p2 : Int32} {v_trail : Int32} {v_choices : Int32} {v_now : Int32} {v_spot : Int32} {v_slotNow : Int32} {v_textNow : Int32} {v_longNow : Int32} {v_steps : Int32} {v_limit : Int32} {v_isOver : Bool} {v_sort : Nat → Int32} {v_value : Nat → Int32} {v_least : Nat → Int32} {v_most : Nat → Int32} {v_parts : Nat → Int32} {v_firstPart : Nat → Int32} {v_inCase : Nat → Bool} {v_partBegin : Nat → Int32} {v_partEnd : Nat → Int32} {v_signs : Nat → Int32} {v_actB : Nat → Int32} {v_labelAt : Nat → Int32} {v_reg : Nat → Int32} {v_trailOf : Nat → Int32} {v_trailOld : Nat → Int32} {v_choiceSort : Nat → Int32} {v_choiceAct : Nat → Int32} {v_choicePlace : Nat → Int32} {v_choiceTrail : Nat → Int32} {gfi : Int} {gC : Int → zT} {gN : Int} {gfr : Int} {gb1 : Int} {gb2 : Int} {gg : Int} {gPsi : Int} {gbs : Int} {gn9 : Int} {v_act : Nat → Int32} {v_actA : Nat → Int32} {v_holder : Nat → Int32} {v_end : Nat → Int32} {gq9 : Int} {gc9 : Int} {Q : Int32 → Int32 → Int32 → Int32 → Int32 → Int32 → Bool → (Nat → Int32) → (Nat → Int32) → (Nat → Int32) → (Nat → Int32) → (Nat → Int32) → (Nat → Int32) → (Nat → Int32) → Prop} (a0 : 0 ≤ v_trail.toInt) (a1 : v_trail.toInt ≤ 119990) (a2 : 0 ≤ v_choices.toInt) (a3 : v_choices.toInt ≤ 199990) (a4 : 0 ≤ v_now.toInt) (a5 : v_now.toInt ≤ 2998) (a6 : 0 ≤ v_steps.toInt) (a7 : v_steps.toInt ≤ 2000000) (a8 : v_steps.toInt ≤ v_limit.toInt) (a9 : 0 ≤ v_textNow.toInt) (a10 : v_textNow.toInt ≤ 300) (a11 : 0 ≤ v_longNow.toInt) (a12 : v_longNow.toInt ≤ 100) (a13 : 0 ≤ v_slotNow.toInt) (a14 : v_slotNow.toInt ≤ 1100) (b0 : rp (fun k v => 0 ≤ v ∧ v ≤ 65535) v_signs 0 400) (b1 : rp (fun k v => 0 ≤ v ∧ v ≤ 1129) v_trailOf 0 v_trail.toInt) (u0 : zMa gfi v_act v_actA gC gN gfr v_longNow.toInt gb1 gb2 gg v_reg v_trailOf v_trailOld v_choiceSort v_choiceAct v_choicePlace v_choiceTrail v_trail.toInt v_choices.toInt v_now.toInt v_spot.toInt v_steps.toInt gPsi 1) (u1 : zPr v_sort v_value v_act v_actA v_actB v_labelAt gbs gn9 gfi gN gC) (u2 : p1.toInt = zg v_act v_now.toInt) (u3 : p2.toInt = zg v_actA v_now.toInt) (u4 : zGg gfi gC gN gg) (u5 : 0 ≤ gfr) (u6 : zSl v_sort v_value v_least v_most v_holder v_parts v_end v_firstPart v_partBegin v_partEnd gbs gq9 gn9 gc9) (u7 : p1.toInt ≠ 19) (u8 : v_slotNow.toInt = gbs) (u9 : 0 ≤ gbs ∧ gbs ≤ 1100) (u10 : 0 ≤ gq9 ∧ gq9 ≤ 2100) (hq : ∀ (r : Int32) (ov_trail : Int32) (ov_choices : Int32) (ov_now : Int32) (ov_spot : Int32) (ov_steps : Int32) (ov_isOver : Bool) (ov_reg : Nat → Int32) (ov_trailOf : Nat → Int32) (ov_trailOld : Nat → Int32) (ov_choiceSort : Nat → Int32) (ov_choiceAct : Nat → Int32) (ov_choicePlace : Nat → Int32) (ov_choiceTrail : Nat → Int32), v_trail.toInt ≤ ov_trail.toInt → v_steps.toInt ≤ ov_steps.toInt → 0 ≤ r.toInt → r.toInt ≤ 1 → ov_trail.toInt ≤ 119999 → 0 ≤ ov_choices.toInt → ov_choices.toInt ≤ 199999 → ov_steps.toInt ≤ 1073741823 → ov_choices.toInt ≤ v_choices.toInt + 2 → ov_trail.toInt ≤ v_trail.toInt + 3 → ov_steps.toInt ≤ v_steps.toInt + 2 → ov_steps.toInt ≤ v_limit.toInt → rp (fun k v => 0 ≤ v ∧ v ≤ 1129) ov_trailOf 0 v_trail.toInt → rp (fun k v => 0 ≤ v ∧ v ≤ 1129) ov_trailOf 0 ov_trail.toInt → rp (fun k v => 0 ≤ v ∧ v ≤ 1129) ov_trailOf r.toInt v_trail.toInt → rp (fun k v => 0 ≤ v ∧ v ≤ 1129) ov_trailOf r.toInt ov_trail.toInt → (ov_isOver = true ∨ zMa gfi v_act v_actA gC gN gfr v_longNow.toInt (gb1 + zh gfi (zg v_act v_now.toInt)) (gb2 + zh gfi (zg v_act v_now.toInt)) gg ov_reg ov_trailOf ov_trailOld ov_choiceSort ov_choiceAct ov_choicePlace ov_choiceTrail ov_trail.toInt ov_choices.toInt ov_now.toInt ov_spot.toInt ov_steps.toInt (gPsi - 1 + 2 * gfi) r.toInt) → Q r ov_trail ov_choices ov_now ov_spot ov_steps ov_isOver ov_reg ov_trailOf ov_trailOld ov_choiceSort ov_choiceAct ov_choicePlace ov_choiceTrail) : w_X12_isDone p1 p2 v_trail v_choices v_now v_spot v_slotNow v_textNow v_longNow v_steps v_limit v_isOver v_sort v_value v_least v_most v_parts v_firstPart v_inCase v_partBegin v_partEnd v_signs v_actB v_labelAt v_reg v_trailOf v_trailOld v_choiceSort v_choiceAct v_choicePlace v_choiceTrail Q := by
  have q_t : (bz true).toInt = 1 := rfl
  have q_f : (bz false).toInt = 0 := rfl
  have q_0 : (0 : Int32).toInt = 0 := rfl
  have q_1 : (1 : Int32).toInt = 1 := rfl
  unfold w_X12_isDone
  have hb9 := zMa_b u0 u1 u5
  have hz9 : 0 ≤ zh gfi (zg v_act v_now.toInt) := zh_b.1
  have hf9 : 0 ≤ gfi := (by rcases (zIs u0 u1).2.2.2.2.2.2.1 with e | e <;> omega)
  have hl9 := (zIs u0 u1).2.2.2.2.2.1 (by omega)
  have f1 : (0 ≤ p2.toInt ∧ p2.toInt ≤ 2999) := by have h9 := zIa u0 u1; omega
  have f2 : (0 ≤ p1.toInt ∧ p1.toInt ≤ 21) := by have h9 := (zIs u0 u1).1; omega
  have f3 : (0 ≤ v_spot.toInt ∧ v_spot.toInt ≤ v_longNow.toInt) := by omega
  have f4 : v_now.toInt ≤ 2997 := by omega
  intro x5 ex5
  have f5 : x5.toInt = v_slotNow.toInt + p2.toInt := i_add (a := v_slotNow.toInt) (b := p2.toInt) ex5 rfl rfl (by omega) (by omega)
  have j_535 : ((p1.toInt = 13) ∨ (p1.toInt = 15)) → (p1.toInt = 13 ∨ p1.toInt = 15) → w_X12_isDone_535 p2 v_limit v_actB v_labelAt Q v_trail v_choices v_now v_spot v_steps v_isOver v_reg v_trailOf v_trailOld v_choiceSort v_choiceAct v_choicePlace v_choiceTrail := by
    intro f6 u535_0
    unfold w_X12_isDone_535
    have f7 : (0 ≤ p2.toInt ∧ p2.toInt ≤ 219) := by have h9 := (zIs u0 u1).2.2.2.2.1 (by omega) (by omega) (by omega); have h8 := (zIs u0 u1).2.2.2.2.2.2.2; omega
    refine ⟨i_in (by omega) (by omega), ?_⟩
    intro x545 ex545
    have f8 : (0 ≤ x545.toInt + 1 ∧ x545.toInt ≤ 2999) := by have h9 := (zIl u0 u1).2.2 (by omega); have h8 := zg_at ex545; omega
    refine ok_X12_beginLook (gfi := gfi) (gC := gC) (gN := gN) (gfr := gfr) (glg := v_longNow.toInt) (gb1 := gb1) (gb2 := gb2) (gg := gg) (gPsi := gPsi) (gbs := gbs) (gn9 := gn9) (v_act := v_act) (v_actA := v_actA) (v_actB := v_actB) (v_sort := v_sort) (v_value := v_value) (by omega) (by omega) (by omega) (by omega) (by omega) (by omega) (by omega) (by omega) (by omega) (by omega) (by omega) (by omega) (by omega) (by omega) (by omega) (rp_mono b1 (by omega) (by omega)) (by exact u0) (by exact u1) (by omega) (by exact u3) (by exact zg_at ex545) (by exact u4) (by exact u5) (by intro z; first | exact absurd rfl z | omega) (by intro z; first | omega | exact absurd z (by decide)) (by omega) (fun r547_0 r547_1 r547_2 r547_3 r547_4 r547_5 r547_6 r547_7 r547_8 r547_9 r547_10 r547_11 r547_12 f9 f10 f11 f12 f13 f14 f15 f16 f17 f18 f19 f20 h21 h22 u547_0 => ?_)
    exact hq 1 r547_0 r547_1 r547_2 r547_3 r547_4 r547_5 r547_6 r547_7 r547_8 r547_9 r547_10 r547_11 r547_12 (by omega) (by omega) (by omega) (by omega) (by omega) (by omega) (by omega) (by omega) (by omega) (by omega) (by omega) (by omega) (rp_mono h22 (by omega) (by omega)) (rp_mono h22 (by omega) (by omega)) (rp_mono h22 (by omega) (by omega)) (rp_mono h22 (by omega) (by omega)) (by exact u547_0)
  have j_670 : p1.toInt ≠ 0 → p1.toInt ≠ 1 → p1.toInt ≠ 2 → p1.toInt ≠ 3 → p1.toInt ≠ 4 → p1.toInt ≠ 5 → p1.toInt ≠ 6 → p1.toInt ≠ 7 → p1.toInt ≠ 8 → p1.toInt ≠ 9 → p1.toInt ≠ 10 → p1.toInt ≠ 11 → p1.toInt ≠ 12 → p1.toInt ≠ 13 → p1.toInt ≠ 14 → p1.toInt ≠ 15 → p1.toInt ≠ 16 → p1.toInt ≠ 17 → p1.toInt ≠ 18 → p1.toInt ≠ 21 → (p1.toInt = 20) → w_X12_isDone_670 p2 Q v_trail v_choices v_now v_spot v_steps v_isOver v_reg v_trailOf v_trailOld v_choiceSort v_choiceAct v_choicePlace v_choiceTrail := by
    intro f23 f24 f25 f26 f27 f28 f29 f30 f31 f32 f33 f34 f35 f36 f37 f38 f39 f40 f41 f42 u670_0
    unfold w_X12_isDone_670
    have f43 : (0 ≤ p2.toInt ∧ p2.toInt ≤ 219) := by have h9 := (zIs u0 u1).2.2.2.2.1 (by omega) (by omega) (by omega); have h8 := (zIs u0 u1).2.2.2.2.2.2.2; omega
    intro x682 ex682
    have f44 : x682.toInt = 690 + p2.toInt := i_add (a := 690) (b := p2.toInt) ex682 rfl rfl (by omega) (by omega)
    refine ⟨i_in (by omega) (by omega), ?_⟩
    intro x683 ex683
    have j_701 : ∀ (v_choices_701 : Int32), v_choices_701.toInt ≤ v_choices.toInt → 0 ≤ v_choices_701.toInt → ((v_choices_701.toInt = v_choices.toInt) ∨ (0 ≤ v_choices_701.toInt ∧ v_choices_701.toInt ≤ v_choices.toInt)) → (v_choices_701.toInt ≤ v_choices.toInt) → w_X12_isDone_701 Q v_trail v_choices_701 v_now v_spot v_steps v_isOver v_reg v_trailOf v_trailOld v_choiceSort v_choiceAct v_choicePlace v_choiceTrail := by
      intro v_choices_701 f45 f46 f47 u701_0
      unfold w_X12_isDone_701
      exact hq 0 v_trail v_choices_701 v_now v_spot v_steps v_isOver v_reg v_trailOf v_trailOld v_choiceSort v_choiceAct v_choicePlace v_choiceTrail (by omega) (by omega) (by omega) (by omega) (by omega) (by omega) (by omega) (by omega) (by omega) (by omega) (by omega) (by omega) (rp_mono b1 (by omega) (by omega)) (rp_mono b1 (by omega) (by omega)) (rp_mono b1 (by omega) (by omega)) (rp_mono b1 (by omega) (by omega)) (by exact Or.inr (zMa_no u0 (by omega) (by omega) (by omega) u4.1 (by omega) (by omega) (by omega)))
    refine ⟨fun c684 => ?_, fun c684 => ?_⟩
    · have f48 : v_spot.toInt ≠ x683.toInt := i_ne (a := v_spot.toInt) (b := x683.toInt) rfl rfl c684
      exact j_701 v_choices (by omega) (by omega) (by omega) (by omega)
    · have f49 : v_spot.toInt = x683.toInt := i_eq (a := v_spot.toInt) (b := x683.toInt) rfl rfl c684
      intro x696 ex696
      have f50 : x696.toInt = 470 + p2.toInt := i_add (a := 470) (b := p2.toInt) ex696 rfl rfl (by omega) (by omega)
      refine ⟨i_in (by omega) (by omega), ?_⟩
      intro x697 ex697
      have h697 : x697.toInt = zg v_reg (470 + zg v_actA v_now.toInt) := zg_at2 ex697 (by omega)
      have f51 : (0 ≤ x697.toInt ∧ x697.toInt ≤ v_choices.toInt) := by have h9 := (zD_lk u0 u1 u5 (by omega)).1; omega
      exact j_701 x697 (by omega) (by omega) (by omega) (by omega)
  refine ⟨fun c8_0 => ?_, fun c8_1 => ?_, fun c8_2 => ?_, fun c8_3 => ?_, fun c8_4 => ?_, fun c8_5 => ?_, fun c8_6 => ?_, fun c8_7 => ?_, fun c8_8 => ?_, fun c8_9 => ?_, fun c8_10 => ?_, fun c8_11 => ?_, fun c8_12 => ?_, fun c8_13 => ?_, fun c8_14 => ?_, fun c8_15 => ?_, fun c8_16 => ?_, fun c8_17 => ?_, fun c8_18 => ?_, fun c8_19 => ?_, ?_⟩
  · have f52 : p1.toInt = 0 := i_eq (a := p1.toInt) (b := 0) rfl rfl c8_0
    have f53 : (0 ≤ p2.toInt ∧ p2.toInt + 1 ≤ (gn9 : Int)) := by have h9 := (zIs u0 u1).2.1 (by omega); omega
    have f54 : (gn9 : Int) ≤ 220 := (zIs u0 u1).2.2.2.2.2.2.2
    refine ok_X12_isStep (by omega) (by omega) (by omega) (fun r113 r113_0 r113_1 f55 f56 f57 f58 f59 f60 f61 f62 f63 f64 f65 f66 f67 f68 => ?_)
    have j_168 : ∀ (v_now_168 : Int32) (v_spot_168 : Int32), v_now.toInt ≤ v_now_168.toInt → v_spot.toInt ≤ v_spot_168.toInt → v_now_168.toInt ≤ 2998 → ((v_now_168.toInt = v_now.toInt ∧ v_spot_168.toInt = v_spot.toInt ∧ r113.toInt = 0) ∨ (v_spot_168.toInt = v_spot.toInt + 1 ∧ v_now_168.toInt = v_now.toInt + 1)) → v_spot_168.toInt ≤ 100 → (r113_1 = true ∨ zMa gfi v_act v_actA gC gN gfr v_longNow.toInt (gb1 + zh gfi (zg v_act v_now.toInt)) (gb2 + zh gfi (zg v_act v_now.toInt)) gg v_reg v_trailOf v_trailOld v_choiceSort v_choiceAct v_choicePlace v_choiceTrail v_trail.toInt v_choices.toInt v_now_168.toInt v_spot_168.toInt r113_0.toInt (gPsi - 1 + 2 * gfi) 1) → w_X12_isDone_168 Q v_trail v_choices v_now_168 v_spot_168 r113_0 r113_1 v_reg v_trailOf v_trailOld v_choiceSort v_choiceAct v_choicePlace v_choiceTrail := by
      intro v_now_168 v_spot_168 f69 f70 f71 f72 f73 u168_0
      unfold w_X12_isDone_168
      exact hq 1 v_trail v_choices v_now_168 v_spot_168 r113_0 r113_1 v_reg v_trailOf v_trailOld v_choiceSort v_choiceAct v_choicePlace v_choiceTrail (by omega) (by omega) (by omega) (by omega) (by omega) (by omega) (by omega) (by omega) (by omega) (by omega) (by omega) (by omega) (rp_mono b1 (by omega) (by omega)) (rp_mono b1 (by omega) (by omega)) (rp_mono b1 (by omega) (by omega)) (rp_mono b1 (by omega) (by omega)) (by assumption)
    refine ⟨fun c116 => ?_, fun c116 => ?_⟩
    · have f74 : r113.toInt = 0 := i_eq (a := r113.toInt) (b := 0) rfl rfl c116
      exact j_168 v_now v_spot (by omega) (by omega) (by omega) (by omega) (by omega) (by first | exact Or.inr (zD_e u0 u1 u4 u5 (by omega) (by omega) (by omega) (by omega) (by omega) (by omega) rfl rfl rfl) | exact Or.inl (zbz1 (by omega)))
    · have f75 : r113.toInt ≠ 0 := i_ne (a := r113.toInt) (b := 0) rfl rfl c116
      have j_146 : (r113_0.toInt = v_steps.toInt + 1) → w_X12_isDone_146 Q v_trail v_choices v_now v_spot r113_0 r113_1 v_reg v_trailOf v_trailOld v_choiceSort v_choiceAct v_choicePlace v_choiceTrail := by
        intro u146_0
        unfold w_X12_isDone_146
        exact hq 0 v_trail v_choices v_now v_spot r113_0 r113_1 v_reg v_trailOf v_trailOld v_choiceSort v_choiceAct v_choicePlace v_choiceTrail (by omega) (by omega) (by omega) (by omega) (by omega) (by omega) (by omega) (by omega) (by omega) (by omega) (by omega) (by omega) (rp_mono b1 (by omega) (by omega)) (rp_mono b1 (by omega) (by omega)) (rp_mono b1 (by omega) (by omega)) (rp_mono b1 (by omega) (by omega)) (by exact Or.inr (zMa_no u0 (by omega) (by omega) (by omega) u4.1 (by omega) (by omega) (by omega)))
      refine ⟨fun c127 => ?_, fun c127 => ?_⟩
      · have f76 : v_spot.toInt = v_longNow.toInt := i_eq (a := v_spot.toInt) (b := v_longNow.toInt) rfl rfl c127
        exact j_146  (by omega)
      · have f77 : v_spot.toInt ≠ v_longNow.toInt := i_ne (a := v_spot.toInt) (b := v_longNow.toInt) rfl rfl c127
        refine ok_X12_signOf (by omega) (by omega) (by omega) (by omega) (rp_mono b0 (by omega) (by omega)) (fun r137 f78 f79 => ?_)
        refine ok_X12_takes (v_least := v_least) (v_most := v_most) (v_holder := v_holder) (v_end := v_end) (gb9 := gbs) (gq9 := gq9) (gn9 := gn9) (gc9 := gc9) (by omega) (by omega) (by exact u6) (by omega) (by omega) (by exact u9) (by exact u10) (by rw [show x5.toInt = gbs + zg v_actA v_now.toInt by omega]; exact (zIs u0 u1).2.2.1 (by omega)) (by rw [show x5.toInt = gbs + zg v_actA v_now.toInt by omega]; exact zS_s0 u6 (by omega) (by omega)) (fun r140 f80 f81 => ?_)
        refine ⟨fun c143 => ?_, fun c143 => ?_⟩
        · have f82 : r140.toInt ≠ 0 := i_ne (a := r140.toInt) (b := 0) rfl rfl c143
          intro x154 ex154
          have f83 : x154.toInt = v_spot.toInt + 1 := i_add (a := v_spot.toInt) (b := 1) ex154 rfl rfl (by omega) (by omega)
          intro x164 ex164
          have f84 : x164.toInt = v_now.toInt + 1 := i_add (a := v_now.toInt) (b := 1) ex164 rfl rfl (by omega) (by omega)
          exact j_168 x164 x154 (by omega) (by omega) (by omega) (by omega) (by omega) (by first | exact Or.inr (zD_e u0 u1 u4 u5 (by omega) (by omega) (by omega) (by omega) (by omega) (by omega) rfl rfl rfl) | exact Or.inl (zbz1 (by omega)))
        · have f85 : r140.toInt = 0 := i_eq (a := r140.toInt) (b := 0) rfl rfl c143
          exact j_146  (by omega)
  · have f86 : p1.toInt = 1 := i_eq (a := p1.toInt) (b := 1) rfl rfl c8_1
    have f87 : (0 ≤ p2.toInt ∧ p2.toInt + 1 ≤ (gn9 : Int)) := by have h9 := (zIs u0 u1).2.1 (by omega); omega
    have f88 : (gn9 : Int) ≤ 220 := (zIs u0 u1).2.2.2.2.2.2.2
    refine ok_X12_isStep (by omega) (by omega) (by omega) (fun r171 r171_0 r171_1 f89 f90 f91 f92 f93 f94 f95 f96 f97 f98 f99 f100 f101 f102 => ?_)
    refine ⟨fun c174 => ?_, fun c174 => ?_⟩
    · have f103 : r171.toInt = 0 := i_eq (a := r171.toInt) (b := 0) rfl rfl c174
      exact hq 1 v_trail v_choices v_now v_spot r171_0 r171_1 v_reg v_trailOf v_trailOld v_choiceSort v_choiceAct v_choicePlace v_choiceTrail (by omega) (by omega) (by omega) (by omega) (by omega) (by omega) (by omega) (by omega) (by omega) (by omega) (by omega) (by omega) (rp_mono b1 (by omega) (by omega)) (rp_mono b1 (by omega) (by omega)) (rp_mono b1 (by omega) (by omega)) (rp_mono b1 (by omega) (by omega)) (by exact Or.inl (zbz1 (by omega)))
    · have f104 : r171.toInt ≠ 0 := i_ne (a := r171.toInt) (b := 0) rfl rfl c174
      intro x183 ex183
      have f105 : x183.toInt = v_now.toInt + 1 := i_add (a := v_now.toInt) (b := 1) ex183 rfl rfl (by omega) (by omega)
      refine ok_X12_isEdge (by omega) (by omega) (by omega) (by omega) (by omega) (by omega) (by omega) (by omega) (rp_mono b0 (by omega) (by omega)) (fun r189 f106 f107 => ?_)
      refine ⟨i_01 (by omega) (by omega), ?_⟩
      exact hq r189 v_trail v_choices x183 v_spot r171_0 r171_1 v_reg v_trailOf v_trailOld v_choiceSort v_choiceAct v_choicePlace v_choiceTrail (by omega) (by omega) (by omega) (by omega) (by omega) (by omega) (by omega) (by omega) (by omega) (by omega) (by omega) (by omega) (rp_mono b1 (by omega) (by omega)) (rp_mono b1 (by omega) (by omega)) (rp_mono b1 (by omega) (by omega)) (rp_mono b1 (by omega) (by omega)) (by exact Or.inr (zD_r (zD_e u0 u1 u4 u5 (by omega) (by omega) (by omega) (by omega) (by omega) (by omega) rfl rfl rfl) (zMa_no u0 (by omega) (by omega) (by omega) u4.1 (by omega) (by omega) (by omega))))
  · have f108 : p1.toInt = 2 := i_eq (a := p1.toInt) (b := 2) rfl rfl c8_2
    have f109 : (0 ≤ p2.toInt ∧ p2.toInt + 1 ≤ (gn9 : Int)) := by have h9 := (zIs u0 u1).2.1 (by omega); omega
    have f110 : (gn9 : Int) ≤ 220 := (zIs u0 u1).2.2.2.2.2.2.2
    refine ok_X12_isStep (by omega) (by omega) (by omega) (fun r196 r196_0 r196_1 f111 f112 f113 f114 f115 f116 f117 f118 f119 f120 f121 f122 f123 f124 => ?_)
    refine ⟨fun c199 => ?_, fun c199 => ?_⟩
    · have f125 : r196.toInt = 0 := i_eq (a := r196.toInt) (b := 0) rfl rfl c199
      exact hq 1 v_trail v_choices v_now v_spot r196_0 r196_1 v_reg v_trailOf v_trailOld v_choiceSort v_choiceAct v_choicePlace v_choiceTrail (by omega) (by omega) (by omega) (by omega) (by omega) (by omega) (by omega) (by omega) (by omega) (by omega) (by omega) (by omega) (rp_mono b1 (by omega) (by omega)) (rp_mono b1 (by omega) (by omega)) (rp_mono b1 (by omega) (by omega)) (rp_mono b1 (by omega) (by omega)) (by exact Or.inl (zbz1 (by omega)))
    · have f126 : r196.toInt ≠ 0 := i_ne (a := r196.toInt) (b := 0) rfl rfl c199
      intro x208 ex208
      have f127 : x208.toInt = v_now.toInt + 1 := i_add (a := v_now.toInt) (b := 1) ex208 rfl rfl (by omega) (by omega)
      refine ok_X12_isBack (by omega) (by omega) (by omega) (by omega) (by omega) (by omega) (by omega) (by omega) (rp_mono b0 (by omega) (by omega)) (by exact zIb u0 u1 (by omega) (by omega) (by omega)) (fun r214 r214_0 f128 f129 f130 f131 f132 f133 f134 f135 f136 f137 => ?_)
      refine ⟨i_01 (by omega) (by omega), ?_⟩
      exact hq r214 v_trail v_choices x208 r214_0 r196_0 r196_1 v_reg v_trailOf v_trailOld v_choiceSort v_choiceAct v_choicePlace v_choiceTrail (by omega) (by omega) (by omega) (by omega) (by omega) (by omega) (by omega) (by omega) (by omega) (by omega) (by omega) (by omega) (rp_mono b1 (by omega) (by omega)) (rp_mono b1 (by omega) (by omega)) (rp_mono b1 (by omega) (by omega)) (rp_mono b1 (by omega) (by omega)) (by exact Or.inr (zD_r (zD_e u0 u1 u4 u5 (by omega) (by omega) (by omega) (by omega) (by omega) (by omega) rfl rfl rfl) (zMa_no u0 (by omega) (by omega) (by omega) u4.1 (by omega) (by omega) (by omega))))
  · have f138 : p1.toInt = 3 := i_eq (a := p1.toInt) (b := 3) rfl rfl c8_3
    have f139 : (0 ≤ p2.toInt ∧ p2.toInt ≤ 2999) := by have h9 := ((zIl u0 u1).1 (by omega) (by omega)).1; omega
    refine ⟨i_in (by omega) (by omega), ?_⟩
    intro x246 ex246
    refine ok_X12_choose (by omega) (by omega) (fun r251_0 r251_1 r251_2 r251_3 r251_4 f140 u251_0 u251_1 u251_2 u251_3 => ?_)
    intro x260 ex260
    have f141 : x260.toInt = v_now.toInt + 1 := i_add (a := v_now.toInt) (b := 1) ex260 rfl rfl (by omega) (by omega)
    exact hq 1 v_trail r251_0 x260 v_spot v_steps v_isOver v_reg v_trailOf v_trailOld r251_1 r251_2 r251_3 r251_4 (by omega) (by omega) (by omega) (by omega) (by omega) (by omega) (by omega) (by omega) (by omega) (by omega) (by omega) (by omega) (rp_mono b1 (by omega) (by omega)) (rp_mono b1 (by omega) (by omega)) (rp_mono b1 (by omega) (by omega)) (rp_mono b1 (by omega) (by omega)) (by exact Or.inr (zD_sp u0 u1 u251_0 u251_1 u251_2 u251_3 (Or.inl ⟨by omega, by rw [zg_at ex246, u3], by omega⟩) (by decide) (by omega) (by omega) (by omega) u5 rfl rfl rfl))
  · have f142 : p1.toInt = 4 := i_eq (a := p1.toInt) (b := 4) rfl rfl c8_4
    have f143 : (0 ≤ p2.toInt ∧ p2.toInt ≤ 2999) := by have h9 := ((zIl u0 u1).1 (by omega) (by omega)).1; omega
    intro x273 ex273
    have f144 : x273.toInt = v_now.toInt + 1 := i_add (a := v_now.toInt) (b := 1) ex273 rfl rfl (by omega) (by omega)
    refine ok_X12_choose (by omega) (by omega) (fun r278_0 r278_1 r278_2 r278_3 r278_4 f145 u278_0 u278_1 u278_2 u278_3 => ?_)
    refine ⟨i_in (by omega) (by omega), ?_⟩
    intro x287 ex287
    exact hq 1 v_trail r278_0 x287 v_spot v_steps v_isOver v_reg v_trailOf v_trailOld r278_1 r278_2 r278_3 r278_4 (by omega) (by omega) (by omega) (by omega) (by omega) (by omega) (by omega) (by omega) (by omega) (by omega) (by omega) (by omega) (rp_mono b1 (by omega) (by omega)) (rp_mono b1 (by omega) (by omega)) (rp_mono b1 (by omega) (by omega)) (rp_mono b1 (by omega) (by omega)) (by exact Or.inr (zD_sp u0 u1 u278_0 u278_1 u278_2 u278_3 (Or.inr ⟨by omega, by omega, by rw [zg_at ex287, u3]⟩) (by decide) (by omega) (by omega) (by omega) u5 rfl rfl rfl))
  · have f146 : p1.toInt = 5 := i_eq (a := p1.toInt) (b := 5) rfl rfl c8_5
    have f147 : (0 ≤ p2.toInt ∧ p2.toInt ≤ 2999) := by have h9 := ((zIl u0 u1).1 (by omega) (by omega)).1; omega
    refine ⟨i_in (by omega) (by omega), ?_⟩
    intro x299 ex299
    exact hq 1 v_trail v_choices x299 v_spot v_steps v_isOver v_reg v_trailOf v_trailOld v_choiceSort v_choiceAct v_choicePlace v_choiceTrail (by omega) (by omega) (by omega) (by omega) (by omega) (by omega) (by omega) (by omega) (by omega) (by omega) (by omega) (by omega) (rp_mono b1 (by omega) (by omega)) (rp_mono b1 (by omega) (by omega)) (rp_mono b1 (by omega) (by omega)) (rp_mono b1 (by omega) (by omega)) (by exact Or.inr (zD_j u0 u1 (Or.inl ⟨by omega, by rw [zg_at ex299, u3]⟩) rfl rfl rfl))
  · have f148 : p1.toInt = 6 := i_eq (a := p1.toInt) (b := 6) rfl rfl c8_6
    have f149 : (1 ≤ p2.toInt ∧ p2.toInt ≤ 9) := by have h9 := (zIs u0 u1).2.2.2.1 (by omega); omega
    intro x309 ex309
    have f150 : x309.toInt = 20 + p2.toInt := i_add (a := 20) (b := p2.toInt) ex309 rfl rfl (by omega) (by omega)
    refine ok_X12_set (by omega) (by omega) (by omega) (by omega) (rp_mono b1 (by omega) (by omega)) (fun r314_0 r314_1 r314_2 r314_3 f151 f152 f153 h154 h155 u314_0 => ?_)
    intro x323 ex323
    have f156 : x323.toInt = v_now.toInt + 1 := i_add (a := v_now.toInt) (b := 1) ex323 rfl rfl (by omega) (by omega)
    exact hq 1 r314_0 v_choices x323 v_spot v_steps v_isOver r314_1 r314_2 r314_3 v_choiceSort v_choiceAct v_choicePlace v_choiceTrail (by omega) (by omega) (by omega) (by omega) (by omega) (by omega) (by omega) (by omega) (by omega) (by omega) (by omega) (by omega) (rp_mono h155 (by omega) (by omega)) (rp_mono h155 (by omega) (by omega)) (rp_mono h155 (by omega) (by omega)) (rp_mono h155 (by omega) (by omega)) (by exact Or.inr (zD_cb u0 u1 u314_0 u5 (by omega) (by omega) (by omega) (by omega) (by omega) rfl rfl rfl rfl))
  · have f157 : p1.toInt = 7 := i_eq (a := p1.toInt) (b := 7) rfl rfl c8_7
    have f158 : (1 ≤ p2.toInt ∧ p2.toInt ≤ 9) := by have h9 := (zIs u0 u1).2.2.2.1 (by omega); omega
    intro x332 ex332
    have f159 : x332.toInt = 0 + p2.toInt := i_add (a := 0) (b := p2.toInt) ex332 rfl rfl (by omega) (by omega)
    intro x340 ex340
    have f160 : x340.toInt = 20 + p2.toInt := i_add (a := 20) (b := p2.toInt) ex340 rfl rfl (by omega) (by omega)
    refine ⟨i_in (by omega) (by omega), ?_⟩
    intro x341 ex341
    refine ok_X12_set (by omega) (by omega) (by omega) (by omega) (rp_mono b1 (by omega) (by omega)) (fun r342_0 r342_1 r342_2 r342_3 f161 f162 f163 h164 h165 u342_0 => ?_)
    intro x349 ex349
    have f166 : x349.toInt = 10 + p2.toInt := i_add (a := 10) (b := p2.toInt) ex349 rfl rfl (by omega) (by omega)
    refine ok_X12_set (by omega) (by omega) (by omega) (by omega) (rp_mono h165 (by omega) (by omega)) (fun r354_0 r354_1 r354_2 r354_3 f167 f168 f169 h170 h171 u354_0 => ?_)
    intro x363 ex363
    have f172 : x363.toInt = v_now.toInt + 1 := i_add (a := v_now.toInt) (b := 1) ex363 rfl rfl (by omega) (by omega)
    exact hq 1 r354_0 v_choices x363 v_spot v_steps v_isOver r354_1 r354_2 r354_3 v_choiceSort v_choiceAct v_choicePlace v_choiceTrail (by omega) (by omega) (by omega) (by omega) (by omega) (by omega) (by omega) (by omega) (by omega) (by omega) (by omega) (by omega) (rp_mono h171 (by omega) (by omega)) (rp_mono h171 (by omega) (by omega)) (rp_mono h171 (by omega) (by omega)) (rp_mono h171 (by omega) (by omega)) (by exact Or.inr (zD_ce u0 u1 u342_0 u354_0 ex341 u5 (by omega) (by omega) (by omega) (by omega) (by omega) (by omega) (by omega) (by omega) (by omega) rfl rfl rfl rfl))
  · have f173 : p1.toInt = 8 := i_eq (a := p1.toInt) (b := 8) rfl rfl c8_8
    have f174 : (0 ≤ p2.toInt ∧ p2.toInt ≤ 219) := by have h9 := (zIs u0 u1).2.2.2.2.1 (by omega) (by omega) (by omega); have h8 := (zIs u0 u1).2.2.2.2.2.2.2; omega
    intro x373 ex373
    have f175 : x373.toInt = 30 + p2.toInt := i_add (a := 30) (b := p2.toInt) ex373 rfl rfl (by omega) (by omega)
    refine ok_X12_set (by omega) (by omega) (by omega) (by omega) (rp_mono b1 (by omega) (by omega)) (fun r375_0 r375_1 r375_2 r375_3 f176 f177 f178 h179 h180 u375_0 => ?_)
    intro x384 ex384
    have f181 : x384.toInt = v_now.toInt + 1 := i_add (a := v_now.toInt) (b := 1) ex384 rfl rfl (by omega) (by omega)
    exact hq 1 r375_0 v_choices x384 v_spot v_steps v_isOver r375_1 r375_2 r375_3 v_choiceSort v_choiceAct v_choicePlace v_choiceTrail (by omega) (by omega) (by omega) (by omega) (by omega) (by omega) (by omega) (by omega) (by omega) (by omega) (by omega) (by omega) (rp_mono h180 (by omega) (by omega)) (rp_mono h180 (by omega) (by omega)) (rp_mono h180 (by omega) (by omega)) (rp_mono h180 (by omega) (by omega)) (by exact Or.inr (zD_ls u0 u1 u375_0 (by omega) (by omega) (by omega) (by omega) (by decide) rfl rfl rfl))
  · have f182 : p1.toInt = 9 := i_eq (a := p1.toInt) (b := 9) rfl rfl c8_9
    have f183 : (0 ≤ p2.toInt ∧ p2.toInt ≤ 219) := by have h9 := (zIs u0 u1).2.2.2.2.1 (by omega) (by omega) (by omega); have h8 := (zIs u0 u1).2.2.2.2.2.2.2; omega
    refine ⟨i_in (by omega) (by omega), ?_⟩
    intro x400 ex400
    have f184 : (0 ≤ x400.toInt ∧ x400.toInt ≤ 2999) := by have h9 := ((zIl u0 u1).2.1 (by omega)).1; have h8 := zg_at ex400; omega
    refine ok_X12_testLoop (gfi := gfi) (gC := gC) (gN := gN) (gfr := gfr) (glg := v_longNow.toInt) (gb1 := gb1) (gb2 := gb2) (gg := gg) (gPsi := gPsi) (gbs := gbs) (gn9 := gn9) (v_act := v_act) (v_actA := v_actA) (v_actB := v_actB) (v_sort := v_sort) (by omega) (by omega) (by omega) (by omega) (by omega) (by omega) (by omega) (by omega) (by omega) (by omega) (by omega) (by omega) (by omega) (by omega) (by omega) (rp_mono b1 (by omega) (by omega)) (by exact u0) (by exact u1) (by omega) (by exact u3) (by exact zg_at ex400) (by exact u4) (by exact u5) (fun r401_0 r401_1 r401_2 r401_3 r401_4 r401_5 r401_6 r401_7 r401_8 r401_9 r401_10 r401_11 f185 f186 f187 f188 f189 f190 f191 h192 h193 u401_0 => ?_)
    exact hq 1 r401_0 r401_1 r401_2 v_spot r401_3 r401_4 r401_5 r401_6 r401_7 r401_8 r401_9 r401_10 r401_11 (by omega) (by omega) (by omega) (by omega) (by omega) (by omega) (by omega) (by omega) (by omega) (by omega) (by omega) (by omega) (rp_mono h193 (by omega) (by omega)) (rp_mono h193 (by omega) (by omega)) (rp_mono h193 (by omega) (by omega)) (rp_mono h193 (by omega) (by omega)) (by exact u401_0)
  · have f194 : p1.toInt = 10 := i_eq (a := p1.toInt) (b := 10) rfl rfl c8_10
    have f195 : (0 ≤ p2.toInt ∧ p2.toInt ≤ 219) := by have h9 := (zIs u0 u1).2.2.2.2.1 (by omega) (by omega) (by omega); have h8 := (zIs u0 u1).2.2.2.2.2.2.2; omega
    intro x413 ex413
    have f196 : x413.toInt = 30 + p2.toInt := i_add (a := 30) (b := p2.toInt) ex413 rfl rfl (by omega) (by omega)
    refine ⟨i_in (by omega) (by omega), ?_⟩
    intro x414 ex414
    refine ⟨i_in (by omega) (by omega), ?_⟩
    intro x420 ex420
    have j_446 : ∀ (s0_446 : Int32), 0 ≤ s0_446.toInt → s0_446.toInt ≤ 1 → ((s0_446.toInt = 1) ∨ (s0_446.toInt = 0)) → w_X12_isDone_446 v_actB v_labelAt Q s0_446 v_trail v_choices v_now v_spot v_steps v_isOver v_reg v_trailOf v_trailOld v_choiceSort v_choiceAct v_choicePlace v_choiceTrail := by
      intro s0_446 f197 f198 f199
      unfold w_X12_isDone_446
      refine ⟨i_in (by omega) (by omega), ?_⟩
      intro x461 ex461
      have f200 : (0 ≤ x461.toInt ∧ x461.toInt ≤ 2999) := by have h9 := ((zIl u0 u1).2.1 (by omega)).1; have h8 := zg_at ex461; omega
      refine ⟨i_in (by omega) (by omega), ?_⟩
      intro x462 ex462
      have j_476 : ∀ (s0_476 : Int32), 0 ≤ s0_476.toInt → s0_476.toInt ≤ 1 → ((s0_476.toInt = 0) ∨ (s0_476.toInt = 1 ∧ s0_446.toInt = 0)) → (zMa gfi v_act v_actA gC gN gfr v_longNow.toInt (gb1 + zh gfi (zg v_act v_now.toInt)) (gb2 + zh gfi (zg v_act v_now.toInt)) gg v_reg v_trailOf v_trailOld v_choiceSort v_choiceAct v_choicePlace v_choiceTrail v_trail.toInt v_choices.toInt x462.toInt v_spot.toInt v_steps.toInt (gPsi - 1 + 2 * gfi) s0_476.toInt) → w_X12_isDone_476 Q s0_476 v_trail v_choices x462 v_spot v_steps v_isOver v_reg v_trailOf v_trailOld v_choiceSort v_choiceAct v_choicePlace v_choiceTrail := by
        intro s0_476 f201 f202 f203 u476_0
        unfold w_X12_isDone_476
        refine ⟨i_01 (by omega) (by omega), ?_⟩
        exact hq s0_476 v_trail v_choices x462 v_spot v_steps v_isOver v_reg v_trailOf v_trailOld v_choiceSort v_choiceAct v_choicePlace v_choiceTrail (by omega) (by omega) (by omega) (by omega) (by omega) (by omega) (by omega) (by omega) (by omega) (by omega) (by omega) (by omega) (rp_mono b1 (by omega) (by omega)) (rp_mono b1 (by omega) (by omega)) (rp_mono b1 (by omega) (by omega)) (rp_mono b1 (by omega) (by omega)) (by exact Or.inr u476_0)
      refine ⟨fun c468 => ?_, fun c468 => ?_⟩
      · have f204 : s0_446.toInt ≠ 0 := i_ne (a := s0_446.toInt) (b := 0) rfl rfl c468
        exact j_476 0 (by omega) (by omega) (by omega) (by exact zD_r (zD_j u0 u1 (Or.inr ⟨by omega, by rw [zg_at ex462, zg_at ex461]⟩) rfl rfl rfl) (zMa_no u0 (by omega) (by omega) (by omega) u4.1 (by omega) (by omega) (by omega)))
      · have f205 : s0_446.toInt = 0 := i_eq (a := s0_446.toInt) (b := 0) rfl rfl c468
        exact j_476 1 (by omega) (by omega) (by omega) (by exact zD_r (zD_j u0 u1 (Or.inr ⟨by omega, by rw [zg_at ex462, zg_at ex461]⟩) rfl rfl rfl) (zMa_no u0 (by omega) (by omega) (by omega) u4.1 (by omega) (by omega) (by omega)))
    have j_445 : w_X12_isDone_445 v_actB v_labelAt Q v_trail v_choices v_now v_spot v_steps v_isOver v_reg v_trailOf v_trailOld v_choiceSort v_choiceAct v_choicePlace v_choiceTrail := by
      unfold w_X12_isDone_445
      exact j_446 0 (by omega) (by omega) (by omega)
    refine ⟨fun c421 => ?_, fun c421 => ?_⟩
    · have f206 : x414.toInt ≤ x420.toInt := i_le (a := x414.toInt) (b := x420.toInt) rfl rfl c421
      exact j_445  
    · have f207 : x420.toInt < x414.toInt := i_nle (a := x414.toInt) (b := x420.toInt) rfl rfl c421
      intro x436 ex436
      have f208 : x436.toInt = 250 + p2.toInt := i_add (a := 250) (b := p2.toInt) ex436 rfl rfl (by omega) (by omega)
      refine ⟨i_in (by omega) (by omega), ?_⟩
      intro x437 ex437
      refine ⟨fun c438 => ?_, fun c438 => ?_⟩
      · have f209 : v_spot.toInt ≠ x437.toInt := i_ne (a := v_spot.toInt) (b := x437.toInt) rfl rfl c438
        exact j_445  
      · have f210 : v_spot.toInt = x437.toInt := i_eq (a := v_spot.toInt) (b := x437.toInt) rfl rfl c438
        exact j_446 1 (by omega) (by omega) (by omega)
  · have f211 : p1.toInt = 11 := i_eq (a := p1.toInt) (b := 11) rfl rfl c8_11
    have f212 : (0 ≤ p2.toInt ∧ p2.toInt ≤ 219) := by have h9 := (zIs u0 u1).2.2.2.2.1 (by omega) (by omega) (by omega); have h8 := (zIs u0 u1).2.2.2.2.2.2.2; omega
    refine ok_X12_isStep (by omega) (by omega) (by omega) (fun r478 r478_0 r478_1 f213 f214 f215 f216 f217 f218 f219 f220 f221 f222 f223 f224 f225 f226 => ?_)
    have j_507 : ∀ (v_trail_507 : Int32) (v_now_507 : Int32) (v_reg_507 : Nat → Int32) (v_trailOf_507 : Nat → Int32) (v_trailOld_507 : Nat → Int32), v_trail.toInt ≤ v_trail_507.toInt → v_now.toInt ≤ v_now_507.toInt → v_trail_507.toInt ≤ v_trail.toInt + 3 → v_now_507.toInt ≤ 2998 → ((v_trail_507.toInt = v_trail.toInt ∧ v_now_507.toInt = v_now.toInt ∧ r478.toInt = 0) ∨ (v_trail.toInt ≤ v_trail_507.toInt ∧ v_trail_507.toInt ≤ v_trail.toInt + 1 ∧ v_now_507.toInt = v_now.toInt + 1)) → rp (fun k v => 0 ≤ v ∧ v ≤ 1129) v_trailOf_507 0 v_trail.toInt → rp (fun k v => 0 ≤ v ∧ v ≤ 1129) v_trailOf_507 0 v_trail_507.toInt → (r478_1 = true ∨ zMa gfi v_act v_actA gC gN gfr v_longNow.toInt (gb1 + zh gfi (zg v_act v_now.toInt)) (gb2 + zh gfi (zg v_act v_now.toInt)) gg v_reg_507 v_trailOf_507 v_trailOld_507 v_choiceSort v_choiceAct v_choicePlace v_choiceTrail v_trail_507.toInt v_choices.toInt v_now_507.toInt v_spot.toInt r478_0.toInt (gPsi - 1 + 2 * gfi) 1) → w_X12_isDone_507 Q v_trail_507 v_choices v_now_507 v_spot r478_0 r478_1 v_reg_507 v_trailOf_507 v_trailOld_507 v_choiceSort v_choiceAct v_choicePlace v_choiceTrail := by
      intro v_trail_507 v_now_507 v_reg_507 v_trailOf_507 v_trailOld_507 f227 f228 f229 f230 f231 h232 h233 u507_0
      unfold w_X12_isDone_507
      exact hq 1 v_trail_507 v_choices v_now_507 v_spot r478_0 r478_1 v_reg_507 v_trailOf_507 v_trailOld_507 v_choiceSort v_choiceAct v_choicePlace v_choiceTrail (by omega) (by omega) (by omega) (by omega) (by omega) (by omega) (by omega) (by omega) (by omega) (by omega) (by omega) (by omega) (rp_mono h233 (by omega) (by omega)) (rp_mono h233 (by omega) (by omega)) (rp_mono h233 (by omega) (by omega)) (rp_mono h233 (by omega) (by omega)) (by assumption)
    refine ⟨fun c481 => ?_, fun c481 => ?_⟩
    · have f234 : r478.toInt = 0 := i_eq (a := r478.toInt) (b := 0) rfl rfl c481
      exact j_507 v_trail v_now v_reg v_trailOf v_trailOld (by omega) (by omega) (by omega) (by omega) (by omega) (rp_mono b1 (by omega) (by omega)) (rp_mono b1 (by omega) (by omega)) (by first | exact Or.inr (zD_kb u0 u1 u494_0 u4 u5 (by omega) (by omega) (by omega) (by omega) (by omega) (by omega) (by omega) rfl rfl rfl rfl) | exact Or.inl (zbz1 (by omega)))
    · have f235 : r478.toInt ≠ 0 := i_ne (a := r478.toInt) (b := 0) rfl rfl c481
      intro x489 ex489
      have f236 : x489.toInt = 470 + p2.toInt := i_add (a := 470) (b := p2.toInt) ex489 rfl rfl (by omega) (by omega)
      refine ok_X12_set (by omega) (by omega) (by omega) (by omega) (rp_mono b1 (by omega) (by omega)) (fun r494_0 r494_1 r494_2 r494_3 f237 f238 f239 h240 h241 u494_0 => ?_)
      intro x503 ex503
      have f242 : x503.toInt = v_now.toInt + 1 := i_add (a := v_now.toInt) (b := 1) ex503 rfl rfl (by omega) (by omega)
      exact j_507 r494_0 x503 r494_1 r494_2 r494_3 (by omega) (by omega) (by omega) (by omega) (by omega) (rp_mono h241 (by omega) (by omega)) (rp_mono h241 (by omega) (by omega)) (by first | exact Or.inr (zD_kb u0 u1 u494_0 u4 u5 (by omega) (by omega) (by omega) (by omega) (by omega) (by omega) (by omega) rfl rfl rfl rfl) | exact Or.inl (zbz1 (by omega)))
  · have f243 : p1.toInt = 12 := i_eq (a := p1.toInt) (b := 12) rfl rfl c8_12
    have f244 : (0 ≤ p2.toInt ∧ p2.toInt ≤ 219) := by have h9 := (zIs u0 u1).2.2.2.2.1 (by omega) (by omega) (by omega); have h8 := (zIs u0 u1).2.2.2.2.2.2.2; omega
    intro x518 ex518
    have f245 : x518.toInt = 470 + p2.toInt := i_add (a := 470) (b := p2.toInt) ex518 rfl rfl (by omega) (by omega)
    refine ⟨i_in (by omega) (by omega), ?_⟩
    intro x519 ex519
    have h519 : x519.toInt = zg v_reg (470 + zg v_actA v_now.toInt) := zg_at2 ex519 (by omega)
    have f246 : (0 ≤ x519.toInt ∧ x519.toInt ≤ v_choices.toInt) := by have h9 := zIk u0 u1 u5 (by omega); omega
    intro x529 ex529
    have f247 : x529.toInt = v_now.toInt + 1 := i_add (a := v_now.toInt) (b := 1) ex529 rfl rfl (by omega) (by omega)
    exact hq 1 v_trail x519 x529 v_spot v_steps v_isOver v_reg v_trailOf v_trailOld v_choiceSort v_choiceAct v_choicePlace v_choiceTrail (by omega) (by omega) (by omega) (by omega) (by omega) (by omega) (by omega) (by omega) (by omega) (by omega) (by omega) (by omega) (rp_mono b1 (by omega) (by omega)) (rp_mono b1 (by omega) (by omega)) (rp_mono b1 (by omega) (by omega)) (rp_mono b1 (by omega) (by omega)) (by exact Or.inr (zD_ke u0 u1 u5 (by omega) (by omega) h519 rfl rfl rfl))
  · have f248 : p1.toInt = 13 := i_eq (a := p1.toInt) (b := 13) rfl rfl c8_13
    exact j_535  (by omega) (by omega)
  · have f249 : p1.toInt = 14 := i_eq (a := p1.toInt) (b := 14) rfl rfl c8_14
    have f250 : (0 ≤ p2.toInt ∧ p2.toInt ≤ 219) := by have h9 := (zIs u0 u1).2.2.2.2.1 (by omega) (by omega) (by omega); have h8 := (zIs u0 u1).2.2.2.2.2.2.2; omega
    intro x578 ex578
    have f251 : x578.toInt = 470 + p2.toInt := i_add (a := 470) (b := p2.toInt) ex578 rfl rfl (by omega) (by omega)
    refine ⟨i_in (by omega) (by omega), ?_⟩
    intro x579 ex579
    have h579 : x579.toInt = zg v_reg (470 + zg v_actA v_now.toInt) := zg_at2 ex579 (by omega)
    have f252 : (0 ≤ x579.toInt ∧ x579.toInt ≤ v_choices.toInt) := by have h9 := (zD_lk u0 u1 u5 (by omega)).1; omega
    intro x592 ex592
    have f253 : x592.toInt = 690 + p2.toInt := i_add (a := 690) (b := p2.toInt) ex592 rfl rfl (by omega) (by omega)
    refine ⟨i_in (by omega) (by omega), ?_⟩
    intro x593 ex593
    have h593 : x593.toInt = zg v_reg (690 + zg v_actA v_now.toInt) := zg_at2 ex593 (by omega)
    intro x603 ex603
    have f254 : x603.toInt = v_now.toInt + 1 := i_add (a := v_now.toInt) (b := 1) ex603 rfl rfl (by omega) (by omega)
    exact hq 1 v_trail x579 x603 x593 v_steps v_isOver v_reg v_trailOf v_trailOld v_choiceSort v_choiceAct v_choicePlace v_choiceTrail (by omega) (by omega) (by omega) (by omega) (by omega) (by omega) (by omega) (by omega) (by omega) (by omega) (by omega) (by omega) (rp_mono b1 (by omega) (by omega)) (rp_mono b1 (by omega) (by omega)) (rp_mono b1 (by omega) (by omega)) (rp_mono b1 (by omega) (by omega)) (by exact Or.inr (zD_le u0 u1 u5 (by omega) (by omega) h579 h593 rfl rfl rfl))
  · have f255 : p1.toInt = 15 := i_eq (a := p1.toInt) (b := 15) rfl rfl c8_15
    exact j_535  (by omega) (by omega)
  · have f256 : p1.toInt = 16 := i_eq (a := p1.toInt) (b := 16) rfl rfl c8_16
    have f257 : (0 ≤ p2.toInt ∧ p2.toInt ≤ 219) := by have h9 := (zIs u0 u1).2.2.2.2.1 (by omega) (by omega) (by omega); have h8 := (zIs u0 u1).2.2.2.2.2.2.2; omega
    intro x618 ex618
    have f258 : x618.toInt = 470 + p2.toInt := i_add (a := 470) (b := p2.toInt) ex618 rfl rfl (by omega) (by omega)
    refine ⟨i_in (by omega) (by omega), ?_⟩
    intro x619 ex619
    have h619 : x619.toInt = zg v_reg (470 + zg v_actA v_now.toInt) := zg_at2 ex619 (by omega)
    have f259 : (0 ≤ x619.toInt ∧ x619.toInt ≤ v_choices.toInt) := by have h9 := (zD_lk u0 u1 u5 (by omega)).1; omega
    exact hq 0 v_trail x619 v_now v_spot v_steps v_isOver v_reg v_trailOf v_trailOld v_choiceSort v_choiceAct v_choicePlace v_choiceTrail (by omega) (by omega) (by omega) (by omega) (by omega) (by omega) (by omega) (by omega) (by omega) (by omega) (by omega) (by omega) (rp_mono b1 (by omega) (by omega)) (rp_mono b1 (by omega) (by omega)) (rp_mono b1 (by omega) (by omega)) (rp_mono b1 (by omega) (by omega)) (by exact Or.inr (zMa_no u0 (by omega) (by omega) (by omega) u4.1 (by omega) (by omega) (by omega)))
  · have f260 : p1.toInt = 17 := i_eq (a := p1.toInt) (b := 17) rfl rfl c8_17
    have f261 : (0 ≤ p2.toInt ∧ p2.toInt ≤ 219) := by have h9 := (zIs u0 u1).2.2.2.2.1 (by omega) (by omega) (by omega); have h8 := (zIs u0 u1).2.2.2.2.2.2.2; omega
    refine ⟨i_in (by omega) (by omega), ?_⟩
    intro x562 ex562
    have f262 : (0 ≤ x562.toInt + 1 ∧ x562.toInt ≤ 2999) := by have h9 := (zIl u0 u1).2.2 (by omega); have h8 := zg_at ex562; omega
    refine ok_X12_beginLook (gfi := gfi) (gC := gC) (gN := gN) (gfr := gfr) (glg := v_longNow.toInt) (gb1 := gb1) (gb2 := gb2) (gg := gg) (gPsi := gPsi) (gbs := gbs) (gn9 := gn9) (v_act := v_act) (v_actA := v_actA) (v_actB := v_actB) (v_sort := v_sort) (v_value := v_value) (by omega) (by omega) (by omega) (by omega) (by omega) (by omega) (by omega) (by omega) (by omega) (by omega) (by omega) (by omega) (by omega) (by omega) (by omega) (rp_mono b1 (by omega) (by omega)) (by exact u0) (by exact u1) (by omega) (by exact u3) (by exact zg_at ex562) (by exact u4) (by exact u5) (by intro z; first | exact absurd rfl z | omega) (by intro z; first | omega | exact absurd z (by decide)) (by omega) (fun r564_0 r564_1 r564_2 r564_3 r564_4 r564_5 r564_6 r564_7 r564_8 r564_9 r564_10 r564_11 r564_12 f263 f264 f265 f266 f267 f268 f269 f270 f271 f272 f273 f274 h275 h276 u564_0 => ?_)
    exact hq 1 r564_0 r564_1 r564_2 r564_3 r564_4 r564_5 r564_6 r564_7 r564_8 r564_9 r564_10 r564_11 r564_12 (by omega) (by omega) (by omega) (by omega) (by omega) (by omega) (by omega) (by omega) (by omega) (by omega) (by omega) (by omega) (rp_mono h276 (by omega) (by omega)) (rp_mono h276 (by omega) (by omega)) (rp_mono h276 (by omega) (by omega)) (rp_mono h276 (by omega) (by omega)) (by exact u564_0)
  · have f277 : p1.toInt = 18 := i_eq (a := p1.toInt) (b := 18) rfl rfl c8_18
    have f278 : (0 ≤ p2.toInt ∧ p2.toInt ≤ 219) := by have h9 := (zIs u0 u1).2.2.2.2.1 (by omega) (by omega) (by omega); have h8 := (zIs u0 u1).2.2.2.2.2.2.2; omega
    intro x637 ex637
    have f279 : x637.toInt = 690 + p2.toInt := i_add (a := 690) (b := p2.toInt) ex637 rfl rfl (by omega) (by omega)
    refine ⟨i_in (by omega) (by omega), ?_⟩
    intro x638 ex638
    have h638 : x638.toInt = zg v_reg (690 + zg v_actA v_now.toInt) := zg_at2 ex638 (by omega)
    refine ⟨fun c639 => ?_, fun c639 => ?_⟩
    · have f280 : v_spot.toInt = x638.toInt := i_eq (a := v_spot.toInt) (b := x638.toInt) rfl rfl c639
      intro x653 ex653
      have f281 : x653.toInt = 470 + p2.toInt := i_add (a := 470) (b := p2.toInt) ex653 rfl rfl (by omega) (by omega)
      refine ⟨i_in (by omega) (by omega), ?_⟩
      intro x654 ex654
      have h654 : x654.toInt = zg v_reg (470 + zg v_actA v_now.toInt) := zg_at2 ex654 (by omega)
      have f282 : (0 ≤ x654.toInt ∧ x654.toInt ≤ v_choices.toInt) := by have h9 := (zD_lk u0 u1 u5 (by omega)).1; omega
      intro x664 ex664
      have f283 : x664.toInt = v_now.toInt + 1 := i_add (a := v_now.toInt) (b := 1) ex664 rfl rfl (by omega) (by omega)
      exact hq 1 v_trail x654 x664 v_spot v_steps v_isOver v_reg v_trailOf v_trailOld v_choiceSort v_choiceAct v_choicePlace v_choiceTrail (by omega) (by omega) (by omega) (by omega) (by omega) (by omega) (by omega) (by omega) (by omega) (by omega) (by omega) (by omega) (rp_mono b1 (by omega) (by omega)) (rp_mono b1 (by omega) (by omega)) (rp_mono b1 (by omega) (by omega)) (rp_mono b1 (by omega) (by omega)) (by exact Or.inr (zD_le u0 u1 u5 (by omega) (by omega) h654 (by omega) rfl rfl rfl))
    · have f284 : v_spot.toInt ≠ x638.toInt := i_ne (a := v_spot.toInt) (b := x638.toInt) rfl rfl c639
      exact hq 0 v_trail v_choices v_now v_spot v_steps v_isOver v_reg v_trailOf v_trailOld v_choiceSort v_choiceAct v_choicePlace v_choiceTrail (by omega) (by omega) (by omega) (by omega) (by omega) (by omega) (by omega) (by omega) (by omega) (by omega) (by omega) (by omega) (rp_mono b1 (by omega) (by omega)) (rp_mono b1 (by omega) (by omega)) (rp_mono b1 (by omega) (by omega)) (rp_mono b1 (by omega) (by omega)) (by exact Or.inr (zMa_no u0 (by omega) (by omega) (by omega) u4.1 (by omega) (by omega) (by omega)))
  · have f285 : p1.toInt = 21 := i_eq (a := p1.toInt) (b := 21) rfl rfl c8_19
    refine ok_X12_isStep (by omega) (by omega) (by omega) (fun r221 r221_0 r221_1 f286 f287 f288 f289 f290 f291 f292 f293 f294 f295 f296 f297 f298 f299 => ?_)
    have j_237 : ∀ (v_now_237 : Int32), v_now.toInt ≤ v_now_237.toInt → v_now_237.toInt ≤ 2998 → ((v_now_237.toInt = v_now.toInt ∧ r221.toInt = 0) ∨ (v_now_237.toInt = v_now.toInt + 1)) → (r221_1 = true ∨ zMa gfi v_act v_actA gC gN gfr v_longNow.toInt (gb1 + zh gfi (zg v_act v_now.toInt)) (gb2 + zh gfi (zg v_act v_now.toInt)) gg v_reg v_trailOf v_trailOld v_choiceSort v_choiceAct v_choicePlace v_choiceTrail v_trail.toInt v_choices.toInt v_now_237.toInt v_spot.toInt r221_0.toInt (gPsi - 1 + 2 * gfi) 1) → w_X12_isDone_237 Q v_trail v_choices v_now_237 v_spot r221_0 r221_1 v_reg v_trailOf v_trailOld v_choiceSort v_choiceAct v_choicePlace v_choiceTrail := by
      intro v_now_237 f300 f301 f302 u237_0
      unfold w_X12_isDone_237
      exact hq 1 v_trail v_choices v_now_237 v_spot r221_0 r221_1 v_reg v_trailOf v_trailOld v_choiceSort v_choiceAct v_choicePlace v_choiceTrail (by omega) (by omega) (by omega) (by omega) (by omega) (by omega) (by omega) (by omega) (by omega) (by omega) (by omega) (by omega) (rp_mono b1 (by omega) (by omega)) (rp_mono b1 (by omega) (by omega)) (rp_mono b1 (by omega) (by omega)) (rp_mono b1 (by omega) (by omega)) (by assumption)
    refine ⟨fun c224 => ?_, fun c224 => ?_⟩
    · have f303 : r221.toInt = 0 := i_eq (a := r221.toInt) (b := 0) rfl rfl c224
      exact j_237 v_now (by omega) (by omega) (by omega) (by first | exact Or.inr (zD_e u0 u1 u4 u5 (by omega) (by omega) (by omega) (by omega) (by omega) (by omega) rfl rfl rfl) | exact Or.inl (zbz1 (by omega)))
    · have f304 : r221.toInt ≠ 0 := i_ne (a := r221.toInt) (b := 0) rfl rfl c224
      intro x233 ex233
      have f305 : x233.toInt = v_now.toInt + 1 := i_add (a := v_now.toInt) (b := 1) ex233 rfl rfl (by omega) (by omega)
      exact j_237 x233 (by omega) (by omega) (by omega) (by first | exact Or.inr (zD_e u0 u1 u4 u5 (by omega) (by omega) (by omega) (by omega) (by omega) (by omega) rfl rfl rfl) | exact Or.inl (zbz1 (by omega)))
  · intro c8_0 c8_1 c8_2 c8_3 c8_4 c8_5 c8_6 c8_7 c8_8 c8_9 c8_10 c8_11 c8_12 c8_13 c8_14 c8_15 c8_16 c8_17 c8_18 c8_19
    have f306 : p1.toInt ≠ 0 := i_ne (a := p1.toInt) (b := 0) rfl rfl c8_0
    have f307 : p1.toInt ≠ 1 := i_ne (a := p1.toInt) (b := 1) rfl rfl c8_1
    have f308 : p1.toInt ≠ 2 := i_ne (a := p1.toInt) (b := 2) rfl rfl c8_2
    have f309 : p1.toInt ≠ 3 := i_ne (a := p1.toInt) (b := 3) rfl rfl c8_3
    have f310 : p1.toInt ≠ 4 := i_ne (a := p1.toInt) (b := 4) rfl rfl c8_4
    have f311 : p1.toInt ≠ 5 := i_ne (a := p1.toInt) (b := 5) rfl rfl c8_5
    have f312 : p1.toInt ≠ 6 := i_ne (a := p1.toInt) (b := 6) rfl rfl c8_6
    have f313 : p1.toInt ≠ 7 := i_ne (a := p1.toInt) (b := 7) rfl rfl c8_7
    have f314 : p1.toInt ≠ 8 := i_ne (a := p1.toInt) (b := 8) rfl rfl c8_8
    have f315 : p1.toInt ≠ 9 := i_ne (a := p1.toInt) (b := 9) rfl rfl c8_9
    have f316 : p1.toInt ≠ 10 := i_ne (a := p1.toInt) (b := 10) rfl rfl c8_10
    have f317 : p1.toInt ≠ 11 := i_ne (a := p1.toInt) (b := 11) rfl rfl c8_11
    have f318 : p1.toInt ≠ 12 := i_ne (a := p1.toInt) (b := 12) rfl rfl c8_12
    have f319 : p1.toInt ≠ 13 := i_ne (a := p1.toInt) (b := 13) rfl rfl c8_13
    have f320 : p1.toInt ≠ 14 := i_ne (a := p1.toInt) (b := 14) rfl rfl c8_14
    have f321 : p1.toInt ≠ 15 := i_ne (a := p1.toInt) (b := 15) rfl rfl c8_15
    have f322 : p1.toInt ≠ 16 := i_ne (a := p1.toInt) (b := 16) rfl rfl c8_16
    have f323 : p1.toInt ≠ 17 := i_ne (a := p1.toInt) (b := 17) rfl rfl c8_17
    have f324 : p1.toInt ≠ 18 := i_ne (a := p1.toInt) (b := 18) rfl rfl c8_18
    have f325 : p1.toInt ≠ 21 := i_ne (a := p1.toInt) (b := 21) rfl rfl c8_19
    exact j_670  (by omega) (by omega) (by omega) (by omega) (by omega) (by omega) (by omega) (by omega) (by omega) (by omega) (by omega) (by omega) (by omega) (by omega) (by omega) (by omega) (by omega) (by omega) (by omega) (by omega) (by omega)
