set_option maxHeartbeats 4000000 in
theorem ok_X12_tried {p1 : Int32} {p2 : Int32} {p3 : Int32} {v_trail : Int32} {v_choices : Int32} {v_now : Int32} {v_spot : Int32} {v_slotNow : Int32} {v_textNow : Int32} {v_longNow : Int32} {v_steps : Int32} {v_limit : Int32} {v_isOver : Bool} {v_stamp : Int32} {v_sort : Nat → Int32} {v_value : Nat → Int32} {v_least : Nat → Int32} {v_most : Nat → Int32} {v_parts : Nat → Int32} {v_firstPart : Nat → Int32} {v_inCase : Nat → Bool} {v_partBegin : Nat → Int32} {v_partEnd : Nat → Int32} {v_signs : Nat → Int32} {v_act : Nat → Int32} {v_actA : Nat → Int32} {v_actB : Nat → Int32} {v_labelAt : Nat → Int32} {v_reg : Nat → Int32} {v_trailOf : Nat → Int32} {v_trailOld : Nat → Int32} {v_choiceSort : Nat → Int32} {v_choiceAct : Nat → Int32} {v_choicePlace : Nat → Int32} {v_choiceTrail : Nat → Int32} {v_seen : Nat → Int32} {gfi : Int} {gC : Int → zT} {gN : Int} {gg : Int} {gbs : Int} {gn9 : Int} {v_holder : Nat → Int32} {v_end : Nat → Int32} {gq9 : Int} {gc9 : Int} {gK : Int} {Q : Int32 → Int32 → Int32 → Int32 → Int32 → Int32 → Bool → (Nat → Int32) → (Nat → Int32) → (Nat → Int32) → (Nat → Int32) → (Nat → Int32) → (Nat → Int32) → (Nat → Int32) → (Nat → Int32) → Prop} (a0 : 0 ≤ p2.toInt) (a1 : p2.toInt ≤ 1) (a2 : 0 ≤ p3.toInt) (a3 : p3.toInt ≤ 1) (a4 : 0 ≤ p1.toInt) (a5 : p1.toInt ≤ v_longNow.toInt) (a6 : 0 ≤ v_longNow.toInt) (a7 : v_longNow.toInt ≤ 100) (a8 : 0 ≤ v_textNow.toInt) (a9 : v_textNow.toInt ≤ 300) (a10 : 0 ≤ v_slotNow.toInt) (a11 : v_slotNow.toInt ≤ 1100) (a12 : 0 ≤ v_steps.toInt) (a13 : v_steps.toInt ≤ 200000) (a14 : v_steps.toInt ≤ v_limit.toInt) (a15 : (bz v_isOver).toInt = 0) (b0 : rp (fun k v => 0 ≤ v ∧ v ≤ 65535) v_signs 0 400) (b1 : rp (fun k v => 0 ≤ v ∧ v ≤ 1129) v_trailOf 0 v_trail.toInt) (u0 : zPr v_sort v_value v_act v_actA v_actB v_labelAt gbs gn9 gfi gN gC) (u1 : zPq gfi v_act gC gN) (u2 : zGg gfi gC gN gg) (u3 : zSl v_sort v_value v_least v_most v_holder v_parts v_end v_firstPart v_partBegin v_partEnd gbs gq9 gn9 gc9) (u4 : v_slotNow.toInt = gbs) (u5 : 0 ≤ gbs ∧ gbs ≤ 1100) (u6 : 0 ≤ gq9 ∧ gq9 ≤ 2100) (u7 : (gfi = 1 ∧ p3.toInt ≠ 0) ∨ (gfi = 0 ∧ p3.toInt = 0)) (u8 : gfi = 0 → v_limit.toInt ≤ 3000) (u9 : gfi = 1 → gN ≤ 1000) (u10 : gfi = 1 → gK ≤ 90000) (u11 : gfi = 1 → zus v_act v_seen v_stamp.toInt gN ≤ gK) (u12 : gfi = 1 → v_steps.toInt + 2 * zus v_act v_seen v_stamp.toInt gN ≤ 2 * gK) (hq : ∀ (r : Int32) (ov_trail : Int32) (ov_choices : Int32) (ov_now : Int32) (ov_spot : Int32) (ov_steps : Int32) (ov_isOver : Bool) (ov_reg : Nat → Int32) (ov_trailOf : Nat → Int32) (ov_trailOld : Nat → Int32) (ov_choiceSort : Nat → Int32) (ov_choiceAct : Nat → Int32) (ov_choicePlace : Nat → Int32) (ov_choiceTrail : Nat → Int32) (ov_seen : Nat → Int32), ov_steps.toInt ≤ v_limit.toInt → v_steps.toInt ≤ ov_steps.toInt → 0 ≤ r.toInt → r.toInt ≤ 2 → 0 ≤ ov_trail.toInt → ov_trail.toInt ≤ 119999 → 0 ≤ ov_choices.toInt → ov_choices.toInt ≤ 199999 → ov_steps.toInt ≤ 262144 → ((r.toInt ≠ 0) ∨ ((bz ov_isOver).toInt = 0)) → ov_steps.toInt ≤ 200010 → rp (fun k v => 0 ≤ v ∧ v ≤ 1129) ov_trailOf 0 ov_trail.toInt → rp (fun k v => 0 ≤ v ∧ v ≤ 1129) ov_trailOf r.toInt ov_trail.toInt → (r.toInt = 1 → zCap (zG ov_reg) v_longNow.toInt ∧ p1.toInt ≤ ov_spot.toInt ∧ ov_spot.toInt ≤ v_longNow.toInt) → (r.toInt = 0 → (gfi = 1 → ov_steps.toInt + 2 * zus v_act ov_seen v_stamp.toInt gN ≤ 2 * gK)) → (zus v_act ov_seen v_stamp.toInt gN ≤ zus v_act v_seen v_stamp.toInt gN) → Q r ov_trail ov_choices ov_now ov_spot ov_steps ov_isOver ov_reg ov_trailOf ov_trailOld ov_choiceSort ov_choiceAct ov_choicePlace ov_choiceTrail ov_seen) : w_X12_tried p1 p2 p3 v_trail v_choices v_now v_spot v_slotNow v_textNow v_longNow v_steps v_limit v_isOver v_stamp v_sort v_value v_least v_most v_parts v_firstPart v_inCase v_partBegin v_partEnd v_signs v_act v_actA v_actB v_labelAt v_reg v_trailOf v_trailOld v_choiceSort v_choiceAct v_choicePlace v_choiceTrail v_seen Q := by
  have q_t : (bz true).toInt = 1 := rfl
  have q_f : (bz false).toInt = 0 := rfl
  have q_0 : (0 : Int32).toInt = 0 := rfl
  have q_1 : (1 : Int32).toInt = 1 := rfl
  have q_2 : (2 : Int32).toInt = 2 := rfl
  unfold w_X12_tried
  have j_3 : ∀ n_3 : Nat, ∀ (l4_3 : Int32) (v_reg_3 : Nat → Int32), 0 ≤ l4_3.toInt → l4_3.toInt ≤ 20 → (zRs v_reg_3 l4_3.toInt) → ((-1) * l4_3.toInt + 20).toNat < n_3 → w_X12_tried_3 p1 p2 p3 v_slotNow v_textNow v_longNow v_limit v_stamp v_sort v_value v_least v_most v_parts v_firstPart v_inCase v_partBegin v_partEnd v_signs v_act v_actA v_actB v_labelAt Q v_trail v_choices v_now v_spot v_steps v_isOver v_trailOf v_trailOld v_choiceSort v_choiceAct v_choicePlace v_choiceTrail v_seen n_3 l4_3 v_reg_3 := by
    intro n_3
    induction n_3 with
    | zero =>
      intro l4_3 v_reg_3 f1 f2 u3_0 hm_3
      exfalso; omega
    | succ n_3 ih_3 =>
      intro l4_3 v_reg_3 f1 f2 u3_0 hm_3
      unfold w_X12_tried_3
      unfold w_X12_tried_3B
      refine ⟨fun c7 => ?_, fun c7 => ?_⟩
      · have f3 : 20 ≤ l4_3.toInt := i_le (a := 20) (b := l4_3.toInt) rfl rfl c7
        have j_44 : ∀ n_44 : Nat, ∀ (v_trail_44 : Int32) (v_choices_44 : Int32) (v_now_44 : Int32) (v_spot_44 : Int32) (v_steps_44 : Int32) (v_isOver_44 : Bool) (v_reg_44 : Nat → Int32) (v_trailOf_44 : Nat → Int32) (v_trailOld_44 : Nat → Int32) (v_choiceSort_44 : Nat → Int32) (v_choiceAct_44 : Nat → Int32) (v_choicePlace_44 : Nat → Int32) (v_choiceTrail_44 : Nat → Int32) (v_seen_44 : Nat → Int32) (gm_44 : Int), (bz v_isOver_44).toInt = 0 → 0 ≤ v_trail_44.toInt → v_steps_44.toInt ≤ 200010 → v_choices_44.toInt ≤ 199990 → 0 ≤ v_choices_44.toInt → v_steps_44.toInt ≤ v_limit.toInt → v_steps.toInt ≤ v_steps_44.toInt → rp (fun k v => 0 ≤ v ∧ v ≤ 1129) v_trailOf_44 0 v_trail_44.toInt → (zTi gfi v_act v_actA gC gN p1.toInt v_longNow.toInt gg gK v_reg_44 v_trailOf_44 v_trailOld_44 v_choiceSort_44 v_choiceAct_44 v_choicePlace_44 v_choiceTrail_44 v_trail_44.toInt v_choices_44.toInt v_now_44.toInt v_spot_44.toInt v_steps_44.toInt v_limit.toInt (zus v_act v_seen_44 v_stamp.toInt gN) gm_44 1) → (zus v_act v_seen_44 v_stamp.toInt gN ≤ zus v_act v_seen v_stamp.toInt gN) → (gm_44).toNat < n_44 → w_X12_tried_44 p2 p3 v_slotNow v_textNow v_longNow v_limit v_stamp v_sort v_value v_least v_most v_parts v_firstPart v_inCase v_partBegin v_partEnd v_signs v_act v_actA v_actB v_labelAt Q n_44 v_trail_44 v_choices_44 v_now_44 v_spot_44 v_steps_44 v_isOver_44 v_reg_44 v_trailOf_44 v_trailOld_44 v_choiceSort_44 v_choiceAct_44 v_choicePlace_44 v_choiceTrail_44 v_seen_44 := by
          intro n_44
          induction n_44 with
          | zero =>
            intro v_trail_44 v_choices_44 v_now_44 v_spot_44 v_steps_44 v_isOver_44 v_reg_44 v_trailOf_44 v_trailOld_44 v_choiceSort_44 v_choiceAct_44 v_choicePlace_44 v_choiceTrail_44 v_seen_44 gm_44 f4 f5 f6 f7 f8 f9 f10 h11 u44_0 u44_1 hm_44
            exfalso; omega
          | succ n_44 ih_44 =>
            intro v_trail_44 v_choices_44 v_now_44 v_spot_44 v_steps_44 v_isOver_44 v_reg_44 v_trailOf_44 v_trailOld_44 v_choiceSort_44 v_choiceAct_44 v_choicePlace_44 v_choiceTrail_44 v_seen_44 gm_44 f4 f5 f6 f7 f8 f9 f10 h11 u44_0 u44_1 hm_44
            unfold w_X12_tried_44
            unfold w_X12_tried_44B
            have hb9 := zTi_b u44_0 u0 (by omega) u2.1 (by omega) (by omega) u8 u10 zus_0
            have f12 : (0 ≤ v_now_44.toInt ∧ v_now_44.toInt ≤ 2998) := by omega
            have f13 : (0 ≤ v_spot_44.toInt ∧ v_spot_44.toInt ≤ v_longNow.toInt) := by omega
            have f14 : (0 ≤ v_choices_44.toInt ∧ v_choices_44.toInt ≤ 199900) := by omega
            have f15 : v_trail_44.toInt ≤ 119900 := by omega
            have f16 : v_steps_44.toInt ≤ 200000 := by omega
            have j_97 : ∀ (l4_97 : Int32) (v_seen_97 : Nat → Int32), ((l4_97.toInt = 1 ∧ p3.toInt = 0) ∨ (v_now_44.toInt ≤ 999 ∧ 0 ≤ l4_97.toInt ∧ l4_97.toInt ≤ 2)) → l4_97.toInt ≤ 1 → (l4_97.toInt ≠ 0 → zus v_act v_seen_97 v_stamp.toInt gN + zh gfi (zg v_act v_now_44.toInt) ≤ zus v_act v_seen_44 v_stamp.toInt gN) → (zus v_act v_seen_97 v_stamp.toInt gN ≤ zus v_act v_seen_44 v_stamp.toInt gN) → w_X12_tried_97 p2 v_slotNow v_textNow v_longNow v_limit v_sort v_value v_least v_most v_parts v_firstPart v_inCase v_partBegin v_partEnd v_signs v_act v_actA v_actB v_labelAt Q (w_X12_tried_44 p2 p3 v_slotNow v_textNow v_longNow v_limit v_stamp v_sort v_value v_least v_most v_parts v_firstPart v_inCase v_partBegin v_partEnd v_signs v_act v_actA v_actB v_labelAt Q n_44) l4_97 v_trail_44 v_choices_44 v_now_44 v_spot_44 v_steps_44 v_isOver_44 v_reg_44 v_trailOf_44 v_trailOld_44 v_choiceSort_44 v_choiceAct_44 v_choicePlace_44 v_choiceTrail_44 v_seen_97 := by
              intro l4_97 v_seen_97 f17 f18 u97_0 u97_1
              unfold w_X12_tried_97
              have j_168 : ∀ (l4_168 : Int32) (v_trail_168 : Int32) (v_choices_168 : Int32) (v_now_168 : Int32) (v_spot_168 : Int32) (v_steps_168 : Int32) (v_isOver_168 : Bool) (v_reg_168 : Nat → Int32) (v_trailOf_168 : Nat → Int32) (v_trailOld_168 : Nat → Int32) (v_choiceSort_168 : Nat → Int32) (v_choiceAct_168 : Nat → Int32) (v_choicePlace_168 : Nat → Int32) (v_choiceTrail_168 : Nat → Int32), v_trail_44.toInt ≤ v_trail_168.toInt → v_trail_168.toInt ≤ v_trail_44.toInt + 3 → v_choices_168.toInt ≤ v_choices_44.toInt + 2 → v_steps.toInt ≤ v_steps_168.toInt → v_steps_44.toInt ≤ v_steps_168.toInt → v_steps_168.toInt ≤ v_steps_44.toInt + 2 → v_steps_168.toInt ≤ v_limit.toInt → 0 ≤ v_choices_168.toInt → 0 ≤ l4_168.toInt → l4_168.toInt ≤ 1 → rp (fun k v => 0 ≤ v ∧ v ≤ 1129) v_trailOf_168 0 v_trail_44.toInt → rp (fun k v => 0 ≤ v ∧ v ≤ 1129) v_trailOf_168 0 v_trail_168.toInt → rp (fun k v => 0 ≤ v ∧ v ≤ 1129) v_trailOf_168 l4_168.toInt v_trail_44.toInt → rp (fun k v => 0 ≤ v ∧ v ≤ 1129) v_trailOf_168 l4_168.toInt v_trail_168.toInt → (v_isOver_168 = true ∨ zTi gfi v_act v_actA gC gN p1.toInt v_longNow.toInt gg gK v_reg_168 v_trailOf_168 v_trailOld_168 v_choiceSort_168 v_choiceAct_168 v_choicePlace_168 v_choiceTrail_168 v_trail_168.toInt v_choices_168.toInt v_now_168.toInt v_spot_168.toInt v_steps_168.toInt v_limit.toInt (zus v_act v_seen_97 v_stamp.toInt gN) (gm_44 - 1) l4_168.toInt) → w_X12_tried_168 v_limit v_actA Q (w_X12_tried_44 p2 p3 v_slotNow v_textNow v_longNow v_limit v_stamp v_sort v_value v_least v_most v_parts v_firstPart v_inCase v_partBegin v_partEnd v_signs v_act v_actA v_actB v_labelAt Q n_44) l4_168 v_trail_168 v_choices_168 v_now_168 v_spot_168 v_steps_168 v_isOver_168 v_reg_168 v_trailOf_168 v_trailOld_168 v_choiceSort_168 v_choiceAct_168 v_choicePlace_168 v_choiceTrail_168 v_seen_97 := by
                intro l4_168 v_trail_168 v_choices_168 v_now_168 v_spot_168 v_steps_168 v_isOver_168 v_reg_168 v_trailOf_168 v_trailOld_168 v_choiceSort_168 v_choiceAct_168 v_choicePlace_168 v_choiceTrail_168 f19 f20 f21 f22 f23 f24 f25 f26 f27 f28 h29 h30 h31 h32 u168_0
                unfold w_X12_tried_168
                have f33 : (0 ≤ (bz v_isOver_168).toInt ∧ (bz v_isOver_168).toInt ≤ 1) := i_bzr v_isOver_168
                have j_189 : ∀ (v_trail_189 : Int32) (v_choices_189 : Int32) (v_now_189 : Int32) (v_spot_189 : Int32) (v_steps_189 : Int32) (v_isOver_189 : Bool) (v_reg_189 : Nat → Int32) (v_trailOf_189 : Nat → Int32) (v_trailOld_189 : Nat → Int32) (v_choiceSort_189 : Nat → Int32) (v_choiceAct_189 : Nat → Int32) (v_choicePlace_189 : Nat → Int32) (v_choiceTrail_189 : Nat → Int32), v_choices_189.toInt ≤ v_choices_44.toInt + 2 → v_steps.toInt ≤ v_steps_189.toInt → v_steps_44.toInt ≤ v_steps_189.toInt → v_steps_189.toInt ≤ v_steps_44.toInt + 3 → v_steps_189.toInt ≤ v_limit.toInt → 0 ≤ v_trail_189.toInt → 0 ≤ v_choices_189.toInt → v_trail_189.toInt ≤ 119999 → rp (fun k v => 0 ≤ v ∧ v ≤ 1129) v_trailOf_189 0 v_trail_189.toInt → rp (fun k v => 0 ≤ v ∧ v ≤ 1129) v_trailOf_189 l4_168.toInt v_trail_189.toInt → (v_isOver_189 = true ∨ zTi gfi v_act v_actA gC gN p1.toInt v_longNow.toInt gg gK v_reg_189 v_trailOf_189 v_trailOld_189 v_choiceSort_189 v_choiceAct_189 v_choicePlace_189 v_choiceTrail_189 v_trail_189.toInt v_choices_189.toInt v_now_189.toInt v_spot_189.toInt v_steps_189.toInt v_limit.toInt (zus v_act v_seen_97 v_stamp.toInt gN) (gm_44 - 1) 1) → w_X12_tried_189 Q (w_X12_tried_44 p2 p3 v_slotNow v_textNow v_longNow v_limit v_stamp v_sort v_value v_least v_most v_parts v_firstPart v_inCase v_partBegin v_partEnd v_signs v_act v_actA v_actB v_labelAt Q n_44) v_trail_189 v_choices_189 v_now_189 v_spot_189 v_steps_189 v_isOver_189 v_reg_189 v_trailOf_189 v_trailOld_189 v_choiceSort_189 v_choiceAct_189 v_choicePlace_189 v_choiceTrail_189 v_seen_97 := by
                  intro v_trail_189 v_choices_189 v_now_189 v_spot_189 v_steps_189 v_isOver_189 v_reg_189 v_trailOf_189 v_trailOld_189 v_choiceSort_189 v_choiceAct_189 v_choicePlace_189 v_choiceTrail_189 f34 f35 f36 f37 f38 f39 f40 f41 h42 h43 u189_0
                  unfold w_X12_tried_189
                  have f44 : (0 ≤ (bz v_isOver_189).toInt ∧ (bz v_isOver_189).toInt ≤ 1) := i_bzr v_isOver_189
                  refine ⟨fun c193 => ?_, fun c193 => ?_⟩
                  · have f45 : (bz v_isOver_189).toInt = 0 := i_eq (a := (bz v_isOver_189).toInt) (b := 0) rfl rfl c193
                    exact ih_44 v_trail_189 v_choices_189 v_now_189 v_spot_189 v_steps_189 v_isOver_189 v_reg_189 v_trailOf_189 v_trailOld_189 v_choiceSort_189 v_choiceAct_189 v_choicePlace_189 v_choiceTrail_189 v_seen_97 (gm_44 - 1) (by omega) (by omega) (by omega) (by omega) (by omega) (by omega) (by omega) (rp_mono h42 (by omega) (by omega)) (by first | exact zTi_0 u0 u1 (fun j j0 j1 => u3_0 j j0 (by omega)) (by omega) rfl rfl rfl rfl u11 u12 (by omega) rfl | exact zor u189_0 (by omega)) (by first | exact Int.le_refl _ | exact Int.le_trans u97_1 u44_1) (by omega)
                  · have f46 : (bz v_isOver_189).toInt ≠ 0 := i_ne (a := (bz v_isOver_189).toInt) (b := 0) rfl rfl c193
                    exact hq 2 v_trail_189 v_choices_189 v_now_189 v_spot_189 v_steps_189 v_isOver_189 v_reg_189 v_trailOf_189 v_trailOld_189 v_choiceSort_189 v_choiceAct_189 v_choicePlace_189 v_choiceTrail_189 v_seen_97 (by omega) (by omega) (by omega) (by omega) (by omega) (by omega) (by omega) (by omega) (by omega) (by omega) (by omega) (rp_mono h42 (by omega) (by omega)) (rp_mono h43 (by omega) (by omega)) (by exact fun z => absurd z (by decide)) (by exact fun z => absurd z (by decide)) (by exact Int.le_trans u97_1 u44_1)
                refine ⟨fun c172 => ?_, fun c172 => ?_⟩
                · have f47 : (bz v_isOver_168).toInt ≠ 0 := i_ne (a := (bz v_isOver_168).toInt) (b := 0) rfl rfl c172
                  exact j_189 v_trail_168 v_choices_168 v_now_168 v_spot_168 v_steps_168 v_isOver_168 v_reg_168 v_trailOf_168 v_trailOld_168 v_choiceSort_168 v_choiceAct_168 v_choicePlace_168 v_choiceTrail_168 (by omega) (by omega) (by omega) (by omega) (by omega) (by omega) (by omega) (by omega) (rp_mono h30 (by omega) (by omega)) (rp_mono h32 (by omega) (by omega)) (by first | exact (u181_0.resolve_left (by omega)).imp_right (fun h => zTi_g h hB8 hg8 u181_1) | exact Or.inl (zbz1 (by omega)) | exact u168_0.imp_right (fun h => zTi_1 h (by omega)))
                · have f48 : (bz v_isOver_168).toInt = 0 := i_eq (a := (bz v_isOver_168).toInt) (b := 0) rfl rfl c172
                  refine ⟨fun c177 => ?_, fun c177 => ?_⟩
                  · have f49 : l4_168.toInt ≠ 0 := i_ne (a := l4_168.toInt) (b := 0) rfl rfl c177
                    exact j_189 v_trail_168 v_choices_168 v_now_168 v_spot_168 v_steps_168 v_isOver_168 v_reg_168 v_trailOf_168 v_trailOld_168 v_choiceSort_168 v_choiceAct_168 v_choicePlace_168 v_choiceTrail_168 (by omega) (by omega) (by omega) (by omega) (by omega) (by omega) (by omega) (by omega) (rp_mono h30 (by omega) (by omega)) (rp_mono h32 (by omega) (by omega)) (by first | exact (u181_0.resolve_left (by omega)).imp_right (fun h => zTi_g h hB8 hg8 u181_1) | exact Or.inl (zbz1 (by omega)) | exact u168_0.imp_right (fun h => zTi_1 h (by omega)))
                  · have f50 : l4_168.toInt = 0 := i_eq (a := l4_168.toInt) (b := 0) rfl rfl c177
                    have h180 := zor u168_0 (by omega)
                    rw [show l4_168.toInt = 0 by omega] at h180
                    obtain ⟨Ψ8, B18, B28, hM8, hB8, hg8⟩ := h180
                    refine ok_X12_goesBack (gfi := gfi) (gC := gC) (gN := gN) (gfr := p1.toInt) (glg := v_longNow.toInt) (gb1 := B18) (gb2 := B28) (gg := gg) (gPsi := Ψ8) (gbs := gbs) (gn9 := gn9) (v_act := v_act) (v_actB := v_actB) (v_labelAt := v_labelAt) (v_sort := v_sort) (v_value := v_value) (by omega) (by omega) (by omega) (by omega) (by omega) (by omega) (by omega) (rp_mono h32 (by omega) (by omega)) (by exact hM8) (by exact u0) (by exact u2) (by omega) (by omega) (fun r181 r181_0 r181_1 r181_2 r181_3 r181_4 r181_5 r181_6 r181_7 r181_8 r181_9 r181_10 r181_11 r181_12 f51 f52 f53 f54 f55 f56 f57 f58 f59 f60 f61 f62 f63 h64 h65 u181_0 u181_1 u181_2 => ?_)
                    refine ⟨fun c184 => ?_, fun c184 => ?_⟩
                    · have f66 : r181.toInt ≠ 0 := i_ne (a := r181.toInt) (b := 0) rfl rfl c184
                      exact j_189 r181_0 r181_1 r181_2 r181_3 r181_4 r181_5 r181_6 r181_7 r181_8 r181_9 r181_10 r181_11 r181_12 (by omega) (by omega) (by omega) (by omega) (by omega) (by omega) (by omega) (by omega) (rp_mono h64 (by omega) (by omega)) (rp_mono h64 (by omega) (by omega)) (by first | exact (u181_0.resolve_left (by omega)).imp_right (fun h => zTi_g h hB8 hg8 u181_1) | exact Or.inl (zbz1 (by omega)) | exact u168_0.imp_right (fun h => zTi_1 h (by omega)))
                    · have f67 : r181.toInt = 0 := i_eq (a := r181.toInt) (b := 0) rfl rfl c184
                      exact hq 0 r181_0 r181_1 r181_2 r181_3 r181_4 r181_5 r181_6 r181_7 r181_8 r181_9 r181_10 r181_11 r181_12 v_seen_97 (by omega) (by omega) (by omega) (by omega) (by omega) (by omega) (by omega) (by omega) (by omega) (by omega) (by omega) (rp_mono h65 (by omega) (by omega)) (rp_mono h65 (by omega) (by omega)) (by exact fun z => absurd z (by decide)) (by exact fun _ z1 => (by have h9 := hB8.2 z1; rw [(u181_2 (by omega)).2]; omega)) (by exact Int.le_trans u97_1 u44_1)
              have j_139 : (l4_97.toInt ≠ 0 → zg v_act v_now_44.toInt ≠ 19) → w_X12_tried_139 v_slotNow v_textNow v_longNow v_limit v_sort v_value v_least v_most v_parts v_firstPart v_inCase v_partBegin v_partEnd v_signs v_act v_actA v_actB v_labelAt Q (w_X12_tried_44 p2 p3 v_slotNow v_textNow v_longNow v_limit v_stamp v_sort v_value v_least v_most v_parts v_firstPart v_inCase v_partBegin v_partEnd v_signs v_act v_actA v_actB v_labelAt Q n_44) l4_97 v_trail_44 v_choices_44 v_now_44 v_spot_44 v_steps_44 v_isOver_44 v_reg_44 v_trailOf_44 v_trailOld_44 v_choiceSort_44 v_choiceAct_44 v_choicePlace_44 v_choiceTrail_44 v_seen_97 := by
                intro u139_0
                unfold w_X12_tried_139
                refine ⟨fun c141 => ?_, fun c141 => ?_⟩
                · have f68 : l4_97.toInt = 0 := i_eq (a := l4_97.toInt) (b := 0) rfl rfl c141
                  exact j_168 l4_97 v_trail_44 v_choices_44 v_now_44 v_spot_44 v_steps_44 v_isOver_44 v_reg_44 v_trailOf_44 v_trailOld_44 v_choiceSort_44 v_choiceAct_44 v_choicePlace_44 v_choiceTrail_44 (by omega) (by omega) (by omega) (by omega) (by omega) (by omega) (by omega) (by omega) (by omega) (by omega) (rp_mono h11 (by omega) (by omega)) (rp_mono h11 (by omega) (by omega)) (rp_mono h11 (by omega) (by omega)) (rp_mono h11 (by omega) (by omega)) (by first | exact u163_0.elim Or.inl (fun h => Or.inr (zTi_d h hB9 hg9 (by omega) (u97_0 (by omega)) (by omega) rfl)) | exact Or.inr (zTi_n u44_0 u97_1 u2.1 (by omega) rfl) | exact Or.inr (by rw [show l4_97.toInt = 0 by omega]; exact zTi_n u44_0 u97_1 u2.1 (by omega) rfl))
                · have f69 : l4_97.toInt ≠ 0 := i_ne (a := l4_97.toInt) (b := 0) rfl rfl c141
                  have h44 := u44_0
                  obtain ⟨Ψ9, B19, B29, hM9, hB9, hg9⟩ := h44
                  refine ⟨i_in (by omega) (by omega), ?_⟩
                  intro x153 ex153
                  refine ⟨i_in (by omega) (by omega), ?_⟩
                  intro x162 ex162
                  refine ok_X12_isDone (gfi := gfi) (gC := gC) (gN := gN) (gfr := p1.toInt) (gb1 := B19) (gb2 := B29) (gg := gg) (gPsi := Ψ9) (gbs := gbs) (gn9 := gn9) (v_act := v_act) (v_actA := v_actA) (v_holder := v_holder) (v_end := v_end) (gq9 := gq9) (gc9 := gc9) (by omega) (by omega) (by omega) (by omega) (by omega) (by omega) (by omega) (by omega) (by omega) (by omega) (by omega) (by omega) (by omega) (by omega) (by omega) (rp_mono b0 (by omega) (by omega)) (rp_mono h11 (by omega) (by omega)) (by exact hM9) (by exact u0) (by exact zg_at ex153) (by exact zg_at ex162) (by exact u2) (by omega) (by exact u3) (by have h9 := zg_at ex153; have h8 := u139_0 (by omega); omega) (by exact u4) (by exact u5) (by exact u6) (fun r163 r163_0 r163_1 r163_2 r163_3 r163_4 r163_5 r163_6 r163_7 r163_8 r163_9 r163_10 r163_11 r163_12 f70 f71 f72 f73 f74 f75 f76 f77 f78 f79 f80 f81 h82 h83 h84 h85 u163_0 => ?_)
                  exact j_168 r163 r163_0 r163_1 r163_2 r163_3 r163_4 r163_5 r163_6 r163_7 r163_8 r163_9 r163_10 r163_11 r163_12 (by omega) (by omega) (by omega) (by omega) (by omega) (by omega) (by omega) (by omega) (by omega) (by omega) (rp_mono h83 (by omega) (by omega)) (rp_mono h83 (by omega) (by omega)) (rp_mono h85 (by omega) (by omega)) (rp_mono h85 (by omega) (by omega)) (by first | exact u163_0.elim Or.inl (fun h => Or.inr (zTi_d h hB9 hg9 (by omega) (u97_0 (by omega)) (by omega) rfl)) | exact Or.inr (zTi_n u44_0 u97_1 u2.1 (by omega) rfl) | exact Or.inr (by rw [show r163.toInt = 0 by omega]; exact zTi_n u44_0 u97_1 u2.1 (by omega) rfl))
              refine ⟨fun c99 => ?_, fun c99 => ?_⟩
              · have f86 : l4_97.toInt = 0 := i_eq (a := l4_97.toInt) (b := 0) rfl rfl c99
                exact j_139  (by first | exact fun _ => (by have h9 := zg_at ex110; omega) | exact fun z => absurd (by omega) z)
              · have f87 : l4_97.toInt ≠ 0 := i_ne (a := l4_97.toInt) (b := 0) rfl rfl c99
                refine ⟨i_in (by omega) (by omega), ?_⟩
                intro x110 ex110
                refine ⟨fun c113 => ?_, fun c113 => ?_⟩
                · have f88 : x110.toInt ≠ 19 := i_ne (a := x110.toInt) (b := 19) rfl rfl c113
                  exact j_139  (by first | exact fun _ => (by have h9 := zg_at ex110; omega) | exact fun z => absurd (by omega) z)
                · have f89 : x110.toInt = 19 := i_eq (a := x110.toInt) (b := 19) rfl rfl c113
                  have j_131 : ((p2.toInt = 0) ∨ (v_spot_44.toInt = v_longNow.toInt)) → w_X12_tried_131 Q v_trail_44 v_choices_44 v_now_44 v_spot_44 v_steps_44 v_isOver_44 v_reg_44 v_trailOf_44 v_trailOld_44 v_choiceSort_44 v_choiceAct_44 v_choicePlace_44 v_choiceTrail_44 v_seen_97 := by
                    intro f90
                    unfold w_X12_tried_131
                    exact hq 1 v_trail_44 v_choices_44 v_now_44 v_spot_44 v_steps_44 v_isOver_44 v_reg_44 v_trailOf_44 v_trailOld_44 v_choiceSort_44 v_choiceAct_44 v_choicePlace_44 v_choiceTrail_44 v_seen_97 (by omega) (by omega) (by omega) (by omega) (by omega) (by omega) (by omega) (by omega) (by omega) (by omega) (by omega) (rp_mono h11 (by omega) (by omega)) (rp_mono h11 (by omega) (by omega)) (by exact fun _ => zTi_e u44_0 u1 (by have h9 := zg_at ex110; omega)) (by exact fun z => absurd z (by decide)) (by exact Int.le_trans u97_1 u44_1)
                  refine ⟨fun c117 => ?_, fun c117 => ?_⟩
                  · have f91 : p2.toInt = 0 := i_eq (a := p2.toInt) (b := 0) rfl rfl c117
                    exact j_131  (by omega)
                  · have f92 : p2.toInt ≠ 0 := i_ne (a := p2.toInt) (b := 0) rfl rfl c117
                    refine ⟨fun c128 => ?_, fun c128 => ?_⟩
                    · have f93 : v_spot_44.toInt ≠ v_longNow.toInt := i_ne (a := v_spot_44.toInt) (b := v_longNow.toInt) rfl rfl c128
                      exact j_168 0 v_trail_44 v_choices_44 v_now_44 v_spot_44 v_steps_44 v_isOver_44 v_reg_44 v_trailOf_44 v_trailOld_44 v_choiceSort_44 v_choiceAct_44 v_choicePlace_44 v_choiceTrail_44 (by omega) (by omega) (by omega) (by omega) (by omega) (by omega) (by omega) (by omega) (by omega) (by omega) (rp_mono h11 (by omega) (by omega)) (rp_mono h11 (by omega) (by omega)) (rp_mono h11 (by omega) (by omega)) (rp_mono h11 (by omega) (by omega)) (by first | exact u163_0.elim Or.inl (fun h => Or.inr (zTi_d h hB9 hg9 (by omega) (u97_0 (by omega)) (by omega) rfl)) | exact Or.inr (zTi_n u44_0 u97_1 u2.1 (by omega) rfl) | exact Or.inr (by rw [show (0 : Int32).toInt = 0 by omega]; exact zTi_n u44_0 u97_1 u2.1 (by omega) rfl))
                    · have f94 : v_spot_44.toInt = v_longNow.toInt := i_eq (a := v_spot_44.toInt) (b := v_longNow.toInt) rfl rfl c128
                      exact j_131  (by omega)
            refine ⟨fun c48 => ?_, fun c48 => ?_⟩
            · have f95 : p3.toInt = 0 := i_eq (a := p3.toInt) (b := 0) rfl rfl c48
              exact j_97 1 v_seen_44 (by omega) (by omega) (by first | exact fun _ => zus_n (by omega) | exact fun z => (by have h9 := hu9.2 (u84_0 z); omega)) (by first | exact Int.le_refl _ | exact hu9.1)
            · have f96 : p3.toInt ≠ 0 := i_ne (a := p3.toInt) (b := 0) rfl rfl c48
              have f97 : v_now_44.toInt ≤ 999 := by have h9 := u9 (by omega); omega
              intro x57 ex57
              have f98 : x57.toInt = 101 * v_now_44.toInt := i_mul (a := 101) (b := v_now_44.toInt) ex57 rfl rfl (by omega) (by omega)
              intro x62 ex62
              have f99 : x62.toInt = x57.toInt + v_spot_44.toInt := i_add (a := x57.toInt) (b := v_spot_44.toInt) ex62 rfl rfl (by omega) (by omega)
              refine ⟨i_in (by omega) (by omega), ?_⟩
              intro x71 ex71
              have j_84 : ∀ (s0_84 : Int32), 0 ≤ s0_84.toInt → s0_84.toInt ≤ 2 → ((s0_84.toInt = 0) ∨ (s0_84.toInt = 1)) → (s0_84.toInt ≠ 0 → x71.toInt ≠ v_stamp.toInt) → w_X12_tried_84 p2 v_slotNow v_textNow v_longNow v_limit v_stamp v_sort v_value v_least v_most v_parts v_firstPart v_inCase v_partBegin v_partEnd v_signs v_act v_actA v_actB v_labelAt Q (w_X12_tried_44 p2 p3 v_slotNow v_textNow v_longNow v_limit v_stamp v_sort v_value v_least v_most v_parts v_firstPart v_inCase v_partBegin v_partEnd v_signs v_act v_actA v_actB v_labelAt Q n_44) s0_84 x62 v_trail_44 v_choices_44 v_now_44 v_spot_44 v_steps_44 v_isOver_44 v_reg_44 v_trailOf_44 v_trailOld_44 v_choiceSort_44 v_choiceAct_44 v_choicePlace_44 v_choiceTrail_44 v_seen_44 := by
                intro s0_84 f100 f101 f102 u84_0
                unfold w_X12_tried_84
                refine ⟨i_in (by omega) (by omega), ?_⟩
                intro g96 eg96
                have hu9 := zus_m (n := v_now_44.toInt) (s := v_spot_44.toInt) (N := gN) (ac := v_act) eg96 ex71 (by omega) rfl (by omega) (by omega) (by omega) (by omega)
                have hu8 := zh_le (φ := gfi) (o := zg v_act v_now_44.toInt) (by omega)
                exact j_97 s0_84 g96 (by omega) (by omega) (by first | exact fun _ => zus_n (by omega) | exact fun z => (by have h9 := hu9.2 (u84_0 z); omega)) (by first | exact Int.le_refl _ | exact hu9.1)
              refine ⟨fun c76 => ?_, fun c76 => ?_⟩
              · have f103 : x71.toInt = v_stamp.toInt := i_eq (a := x71.toInt) (b := v_stamp.toInt) rfl rfl c76
                exact j_84 0 (by omega) (by omega) (by omega) (by first | exact fun z => absurd rfl z | exact fun _ => (by omega))
              · have f104 : x71.toInt ≠ v_stamp.toInt := i_ne (a := x71.toInt) (b := v_stamp.toInt) rfl rfl c76
                exact j_84 1 (by omega) (by omega) (by omega) (by first | exact fun z => absurd rfl z | exact fun _ => (by omega))
        exact ⟨(((zw gfi (gC 0) - gg * zk gfi v_steps.toInt + gg * zk gfi v_limit.toInt + 2 * zus v_act v_seen v_stamp.toInt gN))).toNat + 1, j_44   ((((zw gfi (gC 0) - gg * zk gfi v_steps.toInt + gg * zk gfi v_limit.toInt + 2 * zus v_act v_seen v_stamp.toInt gN))).toNat + 1) 0 0 0 p1 v_steps v_isOver v_reg_3 v_trailOf v_trailOld v_choiceSort v_choiceAct v_choicePlace v_choiceTrail v_seen ((zw gfi (gC 0) - gg * zk gfi v_steps.toInt + gg * zk gfi v_limit.toInt + 2 * zus v_act v_seen v_stamp.toInt gN)) (by omega) (by omega) (by omega) (by omega) (by omega) (by omega) (by omega) (rp_nil (by omega)) (by first | exact zTi_0 u0 u1 (fun j j0 j1 => u3_0 j j0 (by omega)) (by omega) rfl rfl rfl rfl u11 u12 (by omega) rfl | exact zor u189_0 (by omega)) (by first | exact Int.le_refl _ | exact Int.le_trans u97_1 u44_1) (by omega)⟩
      · have f105 : l4_3.toInt < 20 := i_nle (a := 20) (b := l4_3.toInt) rfl rfl c7
        refine ⟨i_in (by omega) (by omega), ?_⟩
        intro g17 eg17
        intro x18 ex18
        have f106 : x18.toInt = l4_3.toInt + 1 := i_add (a := l4_3.toInt) (b := 1) ex18 rfl rfl (by omega) (by omega)
        exact ih_3 x18 g17  (by omega) (by omega) (by first | exact zRs_0 | exact zRs_s u3_0 eg17 (by decide) (by omega) (by omega)) (by have h8_0 := i_rng l4_3; have h8_1 := i_rng x18; omega)
  exact ⟨(20 : Int).toNat + 1, j_3   ((20 : Int).toNat + 1) 0 v_reg  (by omega) (by omega) (by first | exact zRs_0 | exact zRs_s u3_0 eg17 (by decide) (by omega) (by omega)) (by omega)⟩
set_option maxHeartbeats 4000000 in
theorem ok_X12_compileLook {p1 : Int32} {p2 : Int32} {v_labels : Int32} {v_tasks : Int32} {v_value : Nat → Int32} {v_task : Nat → Int32} {v_taskA : Nat → Int32} {v_taskB : Nat → Int32} {gZ : Int → Int} {gC : Int → zT} {gL : Int → zT} {gsi : zT} {gs0 : zT} {gta : zT} {gbs : Int} {gq9 : Int} {gn9 : Int} {gc9 : Int} {gfi : Int} {gB1 : Int} {gB2 : Int} {v_sort : Nat → Int32} {v_least : Nat → Int32} {v_most : Nat → Int32} {v_holder : Nat → Int32} {v_parts : Nat → Int32} {v_end : Nat → Int32} {v_firstPart : Nat → Int32} {v_partBegin : Nat → Int32} {v_partEnd : Nat → Int32} {v_act : Nat → Int32} {v_actA : Nat → Int32} {v_actB : Nat → Int32} {v_labelAt : Nat → Int32} {v_acts : Int32} {Q : Int32 → Int32 → (Nat → Int32) → (Nat → Int32) → (Nat → Int32) → Prop} (a0 : 0 ≤ v_tasks.toInt) (a1 : v_tasks.toInt ≤ 5900) (a2 : 0 ≤ v_labels.toInt) (a3 : v_labels.toInt ≤ 2900) (a4 : 0 ≤ p2.toInt) (a5 : p2.toInt ≤ 219) (a6 : 0 ≤ p1.toInt) (a7 : p1.toInt ≤ 1319) (u0 : zND v_sort v_value v_least v_most v_holder v_parts v_end v_firstPart v_partBegin v_partEnd v_act v_actA v_actB v_labelAt v_task v_taskA v_taskB gZ gbs gq9 gn9 gc9 gfi v_acts.toInt v_labels.toInt v_tasks.toInt gC gL gsi gs0 gta (p2.toInt) gB1 gB2) (u1 : zg v_sort (gbs + p2.toInt) = 9) (hq : ∀ (ov_labels : Int32) (ov_tasks : Int32) (ov_task : Nat → Int32) (ov_taskA : Nat → Int32) (ov_taskB : Nat → Int32), ov_labels.toInt = v_labels.toInt + 1 → ov_tasks.toInt = v_tasks.toInt + 4 → (zWp v_sort v_value v_end v_act v_actA v_actB v_labelAt ov_task ov_taskA ov_taskB gZ gbs gn9 gfi v_acts.toInt ov_labels.toInt ov_tasks.toInt gC gsi (p2.toInt) gB1 gB2) → Q ov_labels ov_tasks ov_task ov_taskA ov_taskB) : w_X12_compileLook p1 p2 v_labels v_tasks v_value v_task v_taskA v_taskB Q := by
  have q_t : (bz true).toInt = 1 := rfl
  have q_f : (bz false).toInt = 0 := rfl
  have q_m1 : ((-1) : Int32).toInt = (-1) := rfl
  have q_0 : (0 : Int32).toInt = 0 := rfl
  have q_13 : (13 : Int32).toInt = 13 := rfl
  have q_14 : (14 : Int32).toInt = 14 := rfl
  have q_15 : (15 : Int32).toInt = 15 := rfl
  have q_16 : (16 : Int32).toInt = 16 := rfl
  have q_17 : (17 : Int32).toInt = 17 := rfl
  have q_18 : (18 : Int32).toInt = 18 := rfl
  have q_20 : (20 : Int32).toInt = 20 := rfl
  have q_100 : (100 : Int32).toInt = 100 := rfl
  have q_101 : (101 : Int32).toInt = 101 := rfl
  unfold w_X12_compileLook
  refine ok_X12_newLabel (by omega) (by omega) (fun r1 r1_0 f1 f2 => ?_)
  refine ⟨i_in (by omega) (by omega), ?_⟩
  intro x10 ex10
  refine ok_X12_later (by omega) (by omega) (fun r18_0 r18_1 r18_2 r18_3 f3 u18_0 u18_1 u18_2 => ?_)
  have j_56 : ∀ (s0_56 : Int32), 12 ≤ s0_56.toInt → s0_56.toInt ≤ 20 → (s0_56.toInt = 14 ∨ s0_56.toInt = 16 ∨ s0_56.toInt = 18 ∨ s0_56.toInt = 20) → w_X12_compileLook_56 p2 Q s0_56 r1 x10 r1_0 r18_0 r18_1 r18_2 r18_3 := by
    intro s0_56 f4 f5 u56_0
    unfold w_X12_compileLook_56
    refine ok_X12_later (by omega) (by omega) (fun r58_0 r58_1 r58_2 r58_3 f6 u58_0 u58_1 u58_2 => ?_)
    intro x66 ex66
    have f7 : x66.toInt = p2.toInt + 1 := i_add (a := p2.toInt) (b := 1) ex66 rfl rfl (by omega) (by omega)
    refine ok_X12_later (by omega) (by omega) (fun r68_0 r68_1 r68_2 r68_3 f8 u68_0 u68_1 u68_2 => ?_)
    have j_95 : ∀ (s0_95 : Int32), ((s0_95.toInt = 17) ∨ (s0_95.toInt = 15 ∧ x10.toInt = 1) ∨ (s0_95.toInt = 13 ∧ x10.toInt = 0)) → (s0_95.toInt = 13 ∨ s0_95.toInt = 15 ∨ s0_95.toInt = 17) → w_X12_compileLook_95 p2 Q s0_95 r1 x10 r1_0 r68_0 r68_1 r68_2 r68_3 := by
      intro s0_95 f9 u95_0
      unfold w_X12_compileLook_95
      have j_113 : ∀ (s0_113 : Int32), ((s0_113.toInt + 1 = 0) ∨ (s0_113.toInt = r1.toInt)) → (s0_113.toInt = -1 ∨ s0_113.toInt = v_labels.toInt) → w_X12_compileLook_113 Q s0_113 p2 s0_95 r1_0 r68_0 r68_1 r68_2 r68_3 := by
        intro s0_113 f10 u113_0
        unfold w_X12_compileLook_113
        have hj9 := u113_0
        refine ok_X12_later (by omega) (by omega) (fun r113_0 r113_1 r113_2 r113_3 f11 u113_0 u113_1 u113_2 => ?_)
        exact hq r1_0 r113_0 r113_1 r113_2 r113_3 (by omega) (by omega) (by exact zN_s u0 u18_0 u18_1 u18_2 u58_0 u58_1 u58_2 u68_0 u68_1 u68_2 u113_0 u113_1 u113_2 u1 (by decide) u56_0 (by decide) u95_0 (by omega) rfl (by omega) rfl hj9 (by omega) (by omega) (by omega) (by omega) (by omega))
      have j_108 : ((x10.toInt = 3) ∨ (x10.toInt = 1)) → w_X12_compileLook_108 Q p2 s0_95 r1 r1_0 r68_0 r68_1 r68_2 r68_3 := by
        intro f12
        unfold w_X12_compileLook_108
        exact j_113 r1 (by omega) (by first | exact Or.inl rfl | exact Or.inr (by omega))
      refine ⟨fun c99 => ?_, fun c99 => ?_⟩
      · have f13 : x10.toInt = 3 := i_eq (a := x10.toInt) (b := 3) rfl rfl c99
        exact j_108  (by omega)
      · have f14 : x10.toInt ≠ 3 := i_ne (a := x10.toInt) (b := 3) rfl rfl c99
        refine ⟨fun c105 => ?_, fun c105 => ?_⟩
        · have f15 : x10.toInt ≠ 1 := i_ne (a := x10.toInt) (b := 1) rfl rfl c105
          exact j_113 (-1) (by omega) (by first | exact Or.inl rfl | exact Or.inr (by omega))
        · have f16 : x10.toInt = 1 := i_eq (a := x10.toInt) (b := 1) rfl rfl c105
          exact j_108  (by omega)
    refine ⟨fun c74 => ?_, fun c74 => ?_⟩
    · have f17 : x10.toInt ≠ 0 := i_ne (a := x10.toInt) (b := 0) rfl rfl c74
      refine ⟨fun c85 => ?_, fun c85 => ?_⟩
      · have f18 : x10.toInt ≠ 1 := i_ne (a := x10.toInt) (b := 1) rfl rfl c85
        exact j_95 17 (by omega) (by first | exact Or.inl rfl | exact Or.inr (Or.inl rfl) | exact Or.inr (Or.inr rfl))
      · have f19 : x10.toInt = 1 := i_eq (a := x10.toInt) (b := 1) rfl rfl c85
        exact j_95 15 (by omega) (by first | exact Or.inl rfl | exact Or.inr (Or.inl rfl) | exact Or.inr (Or.inr rfl))
    · have f20 : x10.toInt = 0 := i_eq (a := x10.toInt) (b := 0) rfl rfl c74
      exact j_95 13 (by omega) (by first | exact Or.inl rfl | exact Or.inr (Or.inl rfl) | exact Or.inr (Or.inr rfl))
  refine ⟨fun c24 => ?_, fun c24 => ?_⟩
  · have f21 : x10.toInt ≠ 0 := i_ne (a := x10.toInt) (b := 0) rfl rfl c24
    refine ⟨fun c35 => ?_, fun c35 => ?_⟩
    · have f22 : x10.toInt ≠ 1 := i_ne (a := x10.toInt) (b := 1) rfl rfl c35
      refine ⟨fun c46 => ?_, fun c46 => ?_⟩
      · have f23 : x10.toInt ≠ 2 := i_ne (a := x10.toInt) (b := 2) rfl rfl c46
        exact j_56 20 (by omega) (by omega) (by first | exact Or.inl rfl | exact Or.inr (Or.inl rfl) | exact Or.inr (Or.inr (Or.inl rfl)) | exact Or.inr (Or.inr (Or.inr rfl)))
      · have f24 : x10.toInt = 2 := i_eq (a := x10.toInt) (b := 2) rfl rfl c46
        exact j_56 18 (by omega) (by omega) (by first | exact Or.inl rfl | exact Or.inr (Or.inl rfl) | exact Or.inr (Or.inr (Or.inl rfl)) | exact Or.inr (Or.inr (Or.inr rfl)))
    · have f25 : x10.toInt = 1 := i_eq (a := x10.toInt) (b := 1) rfl rfl c35
      exact j_56 16 (by omega) (by omega) (by first | exact Or.inl rfl | exact Or.inr (Or.inl rfl) | exact Or.inr (Or.inr (Or.inl rfl)) | exact Or.inr (Or.inr (Or.inr rfl)))
  · have f26 : x10.toInt = 0 := i_eq (a := x10.toInt) (b := 0) rfl rfl c24
    exact j_56 14 (by omega) (by omega) (by first | exact Or.inl rfl | exact Or.inr (Or.inl rfl) | exact Or.inr (Or.inr (Or.inl rfl)) | exact Or.inr (Or.inr (Or.inr rfl)))
set_option maxHeartbeats 4000000 in
theorem ok_X12_compileLoop {p1 : Int32} {p2 : Int32} {v_labels : Int32} {v_tasks : Int32} {v_value : Nat → Int32} {v_task : Nat → Int32} {v_taskA : Nat → Int32} {v_taskB : Nat → Int32} {gZ : Int → Int} {gC : Int → zT} {gL : Int → zT} {gsi : zT} {gs0 : zT} {gta : zT} {gbs : Int} {gq9 : Int} {gn9 : Int} {gc9 : Int} {gfi : Int} {gB1 : Int} {gB2 : Int} {v_sort : Nat → Int32} {v_least : Nat → Int32} {v_most : Nat → Int32} {v_holder : Nat → Int32} {v_parts : Nat → Int32} {v_end : Nat → Int32} {v_firstPart : Nat → Int32} {v_partBegin : Nat → Int32} {v_partEnd : Nat → Int32} {v_act : Nat → Int32} {v_actA : Nat → Int32} {v_actB : Nat → Int32} {v_labelAt : Nat → Int32} {v_acts : Int32} {Q : Int32 → Int32 → (Nat → Int32) → (Nat → Int32) → (Nat → Int32) → Prop} (a0 : 0 ≤ v_tasks.toInt) (a1 : v_tasks.toInt ≤ 5900) (a2 : 0 ≤ v_labels.toInt) (a3 : v_labels.toInt ≤ 2900) (a4 : 0 ≤ p2.toInt) (a5 : p2.toInt ≤ 219) (a6 : 0 ≤ p1.toInt) (a7 : p1.toInt ≤ 1319) (u0 : zND v_sort v_value v_least v_most v_holder v_parts v_end v_firstPart v_partBegin v_partEnd v_act v_actA v_actB v_labelAt v_task v_taskA v_taskB gZ gbs gq9 gn9 gc9 gfi v_acts.toInt v_labels.toInt v_tasks.toInt gC gL gsi gs0 gta (p2.toInt) gB1 gB2) (u1 : zg v_sort (gbs + p2.toInt) = 7) (u2 : gfi = 0) (u3 : p1.toInt = gbs + p2.toInt) (hq : ∀ (ov_labels : Int32) (ov_tasks : Int32) (ov_task : Nat → Int32) (ov_taskA : Nat → Int32) (ov_taskB : Nat → Int32), ov_labels.toInt = v_labels.toInt + 2 → v_tasks.toInt ≤ ov_tasks.toInt → ov_tasks.toInt ≤ v_tasks.toInt + 8 → 6 ≤ ov_tasks.toInt → (zWp v_sort v_value v_end v_act v_actA v_actB v_labelAt ov_task ov_taskA ov_taskB gZ gbs gn9 gfi v_acts.toInt ov_labels.toInt ov_tasks.toInt gC gsi (p2.toInt) gB1 gB2) → Q ov_labels ov_tasks ov_task ov_taskA ov_taskB) : w_X12_compileLoop p1 p2 v_labels v_tasks v_value v_task v_taskA v_taskB Q := by
  have q_t : (bz true).toInt = 1 := rfl
  have q_f : (bz false).toInt = 0 := rfl
  have q_0 : (0 : Int32).toInt = 0 := rfl
  have q_1 : (1 : Int32).toInt = 1 := rfl
  have q_8 : (8 : Int32).toInt = 8 := rfl
  have q_9 : (9 : Int32).toInt = 9 := rfl
  have q_10 : (10 : Int32).toInt = 10 := rfl
  have q_11 : (11 : Int32).toInt = 11 := rfl
  have q_12 : (12 : Int32).toInt = 12 := rfl
  have q_100 : (100 : Int32).toInt = 100 := rfl
  have q_101 : (101 : Int32).toInt = 101 := rfl
  unfold w_X12_compileLoop
  refine ok_X12_newLabel (by omega) (by omega) (fun r1 r1_0 f1 f2 => ?_)
  refine ok_X12_newLabel (by omega) (by omega) (fun r6 r6_0 f3 f4 => ?_)
  refine ⟨i_in (by omega) (by omega), ?_⟩
  intro x16 ex16
  have h16 := zg_at2 ex16 u3
  have j_26 : ∀ (s0_26 : Int32), ((s0_26.toInt = 0) ∨ (s0_26.toInt = 1)) → ((s0_26.toInt = 1 ∧ zg v_value (gbs + p2.toInt) = 2) ∨ (s0_26.toInt = 0 ∧ zg v_value (gbs + p2.toInt) ≠ 2)) → w_X12_compileLoop_26 p2 Q s0_26 r1 r6 r6_0 v_tasks v_task v_taskA v_taskB := by
    intro s0_26 f5 u26_0
    unfold w_X12_compileLoop_26
    have j_41 : ∀ (v_tasks_41 : Int32) (v_task_41 : Nat → Int32) (v_taskA_41 : Nat → Int32) (v_taskB_41 : Nat → Int32), v_tasks.toInt ≤ v_tasks_41.toInt → v_tasks_41.toInt ≤ v_tasks.toInt + 8 → ((v_tasks_41.toInt = v_tasks.toInt) ∨ (v_tasks_41.toInt = v_tasks.toInt + 1)) → ((v_tasks_41.toInt = v_tasks.toInt ∧ s0_26.toInt = 0) ∨ (v_tasks_41.toInt = v_tasks.toInt + 1)) → (zL4 v_sort v_value v_end v_act v_actA v_actB v_labelAt v_task_41 v_taskA_41 v_taskB_41 gZ gbs gn9 gfi v_acts.toInt v_labels.toInt v_tasks_41.toInt gC gsi gs0 gta p2.toInt gB1 gB2) → w_X12_compileLoop_41 p2 Q r1 r6 s0_26 r6_0 v_tasks_41 v_task_41 v_taskA_41 v_taskB_41 := by
      intro v_tasks_41 v_task_41 v_taskA_41 v_taskB_41 f6 f7 f8 f9 u41_0
      unfold w_X12_compileLoop_41
      refine ok_X12_later (by omega) (by omega) (fun r47_0 r47_1 r47_2 r47_3 f10 u47_0 u47_1 u47_2 => ?_)
      refine ok_X12_later (by omega) (by omega) (fun r55_0 r55_1 r55_2 r55_3 f11 u55_0 u55_1 u55_2 => ?_)
      intro x63 ex63
      have f12 : x63.toInt = p2.toInt + 1 := i_add (a := p2.toInt) (b := 1) ex63 rfl rfl (by omega) (by omega)
      refine ok_X12_later (by omega) (by omega) (fun r65_0 r65_1 r65_2 r65_3 f13 u65_0 u65_1 u65_2 => ?_)
      refine ok_X12_later (by omega) (by omega) (fun r74_0 r74_1 r74_2 r74_3 f14 u74_0 u74_1 u74_2 => ?_)
      refine ok_X12_later (by omega) (by omega) (fun r82_0 r82_1 r82_2 r82_3 f15 u82_0 u82_1 u82_2 => ?_)
      refine ok_X12_later (by omega) (by omega) (fun r90_0 r90_1 r90_2 r90_3 f16 u90_0 u90_1 u90_2 => ?_)
      have h93 := zJ_3 u0 u41_0 u47_0 u47_1 u47_2 u55_0 u55_1 u55_2 u65_0 u65_1 u65_2 u74_0 u74_1 u74_2 u82_0 u82_1 u82_2 u90_0 u90_1 u90_2 u1 u2 ⟨by decide, by decide, by decide, by decide, by decide, by decide⟩ ⟨by omega, rfl, by omega, rfl, by omega, rfl⟩ ⟨by omega, by omega⟩ ⟨by omega, by omega, by omega, by omega, by omega, (show r90_0.toInt = r82_0.toInt + 1 by omega)⟩
      have j_106 : ∀ (v_tasks_106 : Int32) (v_task_106 : Nat → Int32) (v_taskA_106 : Nat → Int32) (v_taskB_106 : Nat → Int32), v_tasks.toInt ≤ v_tasks_106.toInt → v_tasks_106.toInt ≤ v_tasks.toInt + 8 → ((v_tasks_106.toInt = r90_0.toInt ∧ s0_26.toInt = 0) ∨ (v_tasks_106.toInt = r90_0.toInt + 1)) → (zWp v_sort v_value v_end v_act v_actA v_actB v_labelAt v_task_106 v_taskA_106 v_taskB_106 gZ gbs gn9 gfi v_acts.toInt r6_0.toInt v_tasks_106.toInt gC gsi (p2.toInt) gB1 gB2) → w_X12_compileLoop_106 Q r6_0 v_tasks_106 v_task_106 v_taskA_106 v_taskB_106 := by
        intro v_tasks_106 v_task_106 v_taskA_106 v_taskB_106 f17 f18 f19 u106_0
        unfold w_X12_compileLoop_106
        exact hq r6_0 v_tasks_106 v_task_106 v_taskA_106 v_taskB_106 (by omega) (by omega) (by omega) (by omega) (by assumption)
      refine ⟨fun c95 => ?_, fun c95 => ?_⟩
      · have f20 : s0_26.toInt = 0 := i_eq (a := s0_26.toInt) (b := 0) rfl rfl c95
        exact j_106 r90_0 r90_1 r90_2 r90_3 (by omega) (by omega) (by omega) (by first | exact zJ_5 u0 h93 u103_0 u103_1 u103_2 u1 u2 (by omega) (by omega) (by decide) rfl (by omega) | exact zJ_4 u0 h93 u1 u2 (by omega) (by omega))
      · have f21 : s0_26.toInt ≠ 0 := i_ne (a := s0_26.toInt) (b := 0) rfl rfl c95
        refine ok_X12_later (by omega) (by omega) (fun r103_0 r103_1 r103_2 r103_3 f22 u103_0 u103_1 u103_2 => ?_)
        exact j_106 r103_0 r103_1 r103_2 r103_3 (by omega) (by omega) (by omega) (by first | exact zJ_5 u0 h93 u103_0 u103_1 u103_2 u1 u2 (by omega) (by omega) (by decide) rfl (by omega) | exact zJ_4 u0 h93 u1 u2 (by omega) (by omega))
    refine ⟨fun c30 => ?_, fun c30 => ?_⟩
    · have f23 : s0_26.toInt = 0 := i_eq (a := s0_26.toInt) (b := 0) rfl rfl c30
      exact j_41 v_tasks v_task v_taskA v_taskB (by omega) (by omega) (by omega) (by omega) (by first | exact zJ_2 u0 u38_0 u38_1 u38_2 u1 u2 (by omega) (by decide) rfl (by omega) | exact zJ_1 u0 u1 u2 (by omega))
    · have f24 : s0_26.toInt ≠ 0 := i_ne (a := s0_26.toInt) (b := 0) rfl rfl c30
      refine ok_X12_later (by omega) (by omega) (fun r38_0 r38_1 r38_2 r38_3 f25 u38_0 u38_1 u38_2 => ?_)
      exact j_41 r38_0 r38_1 r38_2 r38_3 (by omega) (by omega) (by omega) (by omega) (by first | exact zJ_2 u0 u38_0 u38_1 u38_2 u1 u2 (by omega) (by decide) rfl (by omega) | exact zJ_1 u0 u1 u2 (by omega))
  refine ⟨fun c18 => ?_, fun c18 => ?_⟩
  · have f26 : x16.toInt ≠ 2 := i_ne (a := x16.toInt) (b := 2) rfl rfl c18
    exact j_26 0 (by omega) (by first | exact Or.inl ⟨rfl, by omega⟩ | exact Or.inr ⟨rfl, by omega⟩)
  · have f27 : x16.toInt = 2 := i_eq (a := x16.toInt) (b := 2) rfl rfl c18
    exact j_26 1 (by omega) (by first | exact Or.inl ⟨rfl, by omega⟩ | exact Or.inr ⟨rfl, by omega⟩)
set_option maxHeartbeats 4000000 in
theorem ok_X12_compileChoice {p1 : Int32} {v_labels : Int32} {v_tasks : Int32} {v_task : Nat → Int32} {v_taskA : Nat → Int32} {v_taskB : Nat → Int32} {v_held : Nat → Int32} {gZ : Int → Int} {gC : Int → zT} {gL : Int → zT} {gsi : zT} {gs0 : zT} {gta : zT} {gbs : Int} {gq9 : Int} {gn9 : Int} {gc9 : Int} {gfi : Int} {gB1 : Int} {gB2 : Int} {v_sort : Nat → Int32} {v_value : Nat → Int32} {v_least : Nat → Int32} {v_most : Nat → Int32} {v_holder : Nat → Int32} {v_parts : Nat → Int32} {v_end : Nat → Int32} {v_firstPart : Nat → Int32} {v_partBegin : Nat → Int32} {v_partEnd : Nat → Int32} {v_act : Nat → Int32} {v_actA : Nat → Int32} {v_actB : Nat → Int32} {v_labelAt : Nat → Int32} {v_acts : Int32} {gk : Int} {gP : Int → Int} {gE : Int} {gB3 : Int} {Q : Int32 → Int32 → (Nat → Int32) → (Nat → Int32) → (Nat → Int32) → Prop} (a0 : 0 ≤ v_tasks.toInt) (a1 : v_tasks.toInt ≤ 4900) (a2 : 0 ≤ v_labels.toInt) (a3 : v_labels.toInt ≤ 2700) (a4 : 1 ≤ p1.toInt) (a5 : p1.toInt ≤ 220) (u0 : zND v_sort v_value v_least v_most v_holder v_parts v_end v_firstPart v_partBegin v_partEnd v_act v_actA v_actB v_labelAt v_task v_taskA v_taskB gZ gbs gq9 gn9 gc9 gfi v_acts.toInt v_labels.toInt v_tasks.toInt gC gL gsi gs0 gta (gk) gB1 gB2) (u1 : zHe v_held v_end gbs p1.toInt gk (zg v_end (gbs + gk))) (u2 : zEN gE gfi v_sort v_least v_most v_end gbs gn9 gP v_task v_taskA v_tasks.toInt (gk) gB3) (hq : ∀ (ov_labels : Int32) (ov_tasks : Int32) (ov_task : Nat → Int32) (ov_taskA : Nat → Int32) (ov_taskB : Nat → Int32), ov_labels.toInt ≤ p1.toInt + v_labels.toInt → p1.toInt + v_labels.toInt ≤ ov_labels.toInt + 220 → v_labels.toInt + 1 ≤ ov_labels.toInt → v_labels.toInt ≤ ov_labels.toInt + 1 → v_labels.toInt ≤ ov_labels.toInt → v_labels.toInt ≤ ov_labels.toInt + 2 → 0 ≤ ov_labels.toInt + 1 → 0 ≤ ov_labels.toInt → 1 ≤ ov_labels.toInt → ov_labels.toInt ≤ 2999 → 0 ≤ ov_tasks.toInt + 1 → 0 ≤ ov_tasks.toInt → 1 ≤ ov_tasks.toInt → 2 ≤ ov_tasks.toInt → v_tasks.toInt + 2 ≤ ov_tasks.toInt → ov_tasks.toInt + 4 * v_labels.toInt + 2 = 4 * ov_labels.toInt + v_tasks.toInt → v_tasks.toInt ≤ ov_tasks.toInt → ov_tasks.toInt ≤ v_tasks.toInt + 900 → ov_labels.toInt ≤ v_labels.toInt + 220 → p1.toInt + v_labels.toInt ≤ ov_labels.toInt → (zCi v_sort v_value v_end v_act v_actA v_actB v_labelAt ov_task ov_taskA ov_taskB gZ gbs gn9 gfi v_acts.toInt ov_labels.toInt ov_tasks.toInt gC gsi gta gs0.1 v_labels.toInt (gk + 1) (zg v_end (gbs + gk)) gB1 gB2) → (zEr gE gP v_end ov_task ov_taskA gbs ov_tasks.toInt (gk) (gk + 1) (zg v_end (gbs + gk)) gB3) → Q ov_labels ov_tasks ov_task ov_taskA ov_taskB) : w_X12_compileChoice p1 v_labels v_tasks v_task v_taskA v_taskB v_held Q := by
  have q_t : (bz true).toInt = 1 := rfl
  have q_f : (bz false).toInt = 0 := rfl
  have q_0 : (0 : Int32).toInt = 0 := rfl
  have q_3 : (3 : Int32).toInt = 3 := rfl
  have q_5 : (5 : Int32).toInt = 5 := rfl
  have q_100 : (100 : Int32).toInt = 100 := rfl
  have q_101 : (101 : Int32).toInt = 101 := rfl
  unfold w_X12_compileChoice
  refine ok_X12_newLabel (by omega) (by omega) (fun r1 r1_0 f1 f2 => ?_)
  refine ok_X12_later (by omega) (by omega) (fun r10_0 r10_1 r10_2 r10_3 f3 u10_0 u10_1 u10_2 => ?_)
  intro x22 ex22
  have f4 : x22.toInt = p1.toInt - 1 := i_sub (a := p1.toInt) (b := 1) ex22 rfl rfl (by omega) (by omega)
  refine ⟨i_in (by omega) (by omega), ?_⟩
  intro x23 ex23
  refine ok_X12_later (by omega) (by omega) (fun r25_0 r25_1 r25_2 r25_3 f5 u25_0 u25_1 u25_2 => ?_)
  intro x30 ex30
  have f6 : x30.toInt = p1.toInt - 2 := i_sub (a := p1.toInt) (b := 2) ex30 rfl rfl (by omega) (by omega)
  have j_32 : ∀ n_32 : Nat, ∀ (l3_32 : Int32) (v_labels_32 : Int32) (v_tasks_32 : Int32) (v_task_32 : Nat → Int32) (v_taskA_32 : Nat → Int32) (v_taskB_32 : Nat → Int32), 4 * l3_32.toInt + v_tasks_32.toInt + 6 = 4 * p1.toInt + v_tasks.toInt → l3_32.toInt + v_labels_32.toInt + 1 = p1.toInt + v_labels.toInt → 0 ≤ l3_32.toInt + 1 → v_tasks.toInt ≤ v_tasks_32.toInt → (zCi v_sort v_value v_end v_act v_actA v_actB v_labelAt v_task_32 v_taskA_32 v_taskB_32 gZ gbs gn9 gfi v_acts.toInt v_labels_32.toInt v_tasks_32.toInt gC gsi gta gs0.1 v_labels.toInt (zg v_held (l3_32.toInt + 1)) (zg v_end (gbs + gk)) gB1 gB2) → (zEr gE gP v_end v_task_32 v_taskA_32 gbs v_tasks_32.toInt (gk) (zg v_held (l3_32.toInt + 1)) (zg v_end (gbs + gk)) gB3) → (l3_32.toInt + 2147483649).toNat < n_32 → w_X12_compileChoice_32 v_held Q r1 n_32 l3_32 v_labels_32 v_tasks_32 v_task_32 v_taskA_32 v_taskB_32 := by
    intro n_32
    induction n_32 with
    | zero =>
      intro l3_32 v_labels_32 v_tasks_32 v_task_32 v_taskA_32 v_taskB_32 f7 f8 f9 f10 u32_0 u32_1 hm_32
      exfalso; omega
    | succ n_32 ih_32 =>
      intro l3_32 v_labels_32 v_tasks_32 v_task_32 v_taskA_32 v_taskB_32 f7 f8 f9 f10 u32_0 u32_1 hm_32
      unfold w_X12_compileChoice_32
      unfold w_X12_compileChoice_32B
      refine ⟨fun c33 => ?_, fun c33 => ?_⟩
      · have f11 : l3_32.toInt < 0 := i_lt (a := l3_32.toInt) (b := 0) rfl rfl c33
        exact hq v_labels_32 v_tasks_32 v_task_32 v_taskA_32 v_taskB_32 (by omega) (by omega) (by omega) (by omega) (by omega) (by omega) (by omega) (by omega) (by omega) (by omega) (by omega) (by omega) (by omega) (by omega) (by omega) (by omega) (by omega) (by omega) (by omega) (by omega) (by exact zCi_e u32_0 u1 (by omega) (by omega)) (by exact zEc_e u32_1 u1 (by omega) (by omega))
      · have f12 : 0 ≤ l3_32.toInt := i_nlt (a := l3_32.toInt) (b := 0) rfl rfl c33
        refine ok_X12_newLabel (by omega) (by omega) (fun r37 r37_0 f13 f14 => ?_)
        refine ok_X12_later (by omega) (by omega) (fun r48_0 r48_1 r48_2 r48_3 f15 u48_0 u48_1 u48_2 => ?_)
        refine ok_X12_later (by omega) (by omega) (fun r55_0 r55_1 r55_2 r55_3 f16 u55_0 u55_1 u55_2 => ?_)
        refine ⟨i_in (by omega) (by omega), ?_⟩
        intro x66 ex66
        refine ok_X12_later (by omega) (by omega) (fun r68_0 r68_1 r68_2 r68_3 f17 u68_0 u68_1 u68_2 => ?_)
        refine ok_X12_later (by omega) (by omega) (fun r76_0 r76_1 r76_2 r76_3 f18 u76_0 u76_1 u76_2 => ?_)
        intro x79 ex79
        have f19 : x79.toInt = l3_32.toInt + (-1) := i_add (a := l3_32.toInt) (b := (-1)) ex79 rfl rfl (by omega) (by omega)
        exact ih_32 x79 r37_0 r76_0 r76_1 r76_2 r76_3  (by omega) (by omega) (by omega) (by omega) (by first | exact zCi_s u0 u1 u32_0 u48_0 u48_1 u48_2 u55_0 u55_1 u55_2 u68_0 u68_1 u68_2 u76_0 u76_1 u76_2 ex66 (by omega) (by omega) rfl ⟨by decide, by decide, by decide, by decide⟩ ⟨by omega, by omega, by omega⟩ (by omega) ⟨by omega, by omega, by omega, by omega⟩ (zg_at2 ex66 (by omega)).symm (by omega) | exact zCi_0 u0 u1 u10_0 u10_1 u10_2 u25_0 u25_1 u25_2 ex23 (by omega) (by omega) (by decide) (by decide) (by omega) (by omega) (by omega) (by omega) (zg_at2 ex23 (by omega)).symm rfl) (by first | exact zEc_s u0 u2 u1 u32_1 u48_0 u48_1 u55_0 u55_1 u68_0 u68_1 u76_0 u76_1 ex66 (by decide) (by decide) (by decide) (by decide) (by omega) (by omega) (by omega) (by omega) (by omega) (by omega) (by omega) (zg_at2 ex66 (by omega)).symm | exact zEc_0 u0 u2 u1 u10_0 u10_1 u25_0 u25_1 ex23 (by omega) (by omega) (by decide) (by decide) (by omega) (by omega) (by omega) (zg_at2 ex23 (by omega)).symm) (by have h8_0 := i_rng l3_32; have h8_1 := i_rng x79; omega)
  exact ⟨(x30.toInt + 2147483649).toNat + 1, j_32   ((x30.toInt + 2147483649).toNat + 1) x30 r1_0 r25_0 r25_1 r25_2 r25_3  (by omega) (by omega) (by omega) (by omega) (by first | exact zCi_s u0 u1 u32_0 u48_0 u48_1 u48_2 u55_0 u55_1 u55_2 u68_0 u68_1 u68_2 u76_0 u76_1 u76_2 ex66 (by omega) (by omega) rfl ⟨by decide, by decide, by decide, by decide⟩ ⟨by omega, by omega, by omega⟩ (by omega) ⟨by omega, by omega, by omega, by omega⟩ (zg_at2 ex66 (by omega)).symm (by omega) | exact zCi_0 u0 u1 u10_0 u10_1 u10_2 u25_0 u25_1 u25_2 ex23 (by omega) (by omega) (by decide) (by decide) (by omega) (by omega) (by omega) (by omega) (zg_at2 ex23 (by omega)).symm rfl) (by first | exact zEc_s u0 u2 u1 u32_1 u48_0 u48_1 u55_0 u55_1 u68_0 u68_1 u76_0 u76_1 ex66 (by decide) (by decide) (by decide) (by decide) (by omega) (by omega) (by omega) (by omega) (by omega) (by omega) (by omega) (zg_at2 ex66 (by omega)).symm | exact zEc_0 u0 u2 u1 u10_0 u10_1 u25_0 u25_1 ex23 (by omega) (by omega) (by decide) (by decide) (by omega) (by omega) (by omega) (zg_at2 ex23 (by omega)).symm) (by omega)⟩
set_option maxHeartbeats 4000000 in
theorem ok_X12_compileCopies {p1 : Int32} {p2 : Int32} {v_labels : Int32} {v_tasks : Int32} {v_value : Nat → Int32} {v_least : Nat → Int32} {v_most : Nat → Int32} {v_task : Nat → Int32} {v_taskA : Nat → Int32} {v_taskB : Nat → Int32} {gZ : Int → Int} {gC : Int → zT} {gL : Int → zT} {gsi : zT} {gs0 : zT} {gta : zT} {gbs : Int} {gq9 : Int} {gn9 : Int} {gc9 : Int} {gfi : Int} {gB1 : Int} {gB2 : Int} {v_sort : Nat → Int32} {v_holder : Nat → Int32} {v_parts : Nat → Int32} {v_end : Nat → Int32} {v_firstPart : Nat → Int32} {v_partBegin : Nat → Int32} {v_partEnd : Nat → Int32} {v_act : Nat → Int32} {v_actA : Nat → Int32} {v_actB : Nat → Int32} {v_labelAt : Nat → Int32} {v_acts : Int32} {gP : Int → Int} {gE : Int} {gB3 : Int} {Q : Int32 → Int32 → (Nat → Int32) → (Nat → Int32) → (Nat → Int32) → Prop} (a0 : 0 ≤ v_tasks.toInt) (a1 : v_tasks.toInt ≤ 5900) (a2 : 0 ≤ v_labels.toInt) (a3 : v_labels.toInt ≤ 2900) (a4 : 0 ≤ p2.toInt) (a5 : p2.toInt ≤ 219) (a6 : 0 ≤ p1.toInt) (a7 : p1.toInt ≤ 1319) (u0 : zND v_sort v_value v_least v_most v_holder v_parts v_end v_firstPart v_partBegin v_partEnd v_act v_actA v_actB v_labelAt v_task v_taskA v_taskB gZ gbs gq9 gn9 gc9 gfi v_acts.toInt v_labels.toInt v_tasks.toInt gC gL gsi gs0 gta (p2.toInt) gB1 gB2) (u1 : zg v_sort (gbs + p2.toInt) = 7) (u2 : gfi = 1) (u3 : p1.toInt = gbs + p2.toInt) (u4 : zEN gE gfi v_sort v_least v_most v_end gbs gn9 gP v_task v_taskA v_tasks.toInt (p2.toInt) gB3) (hq : ∀ (ov_labels : Int32) (ov_tasks : Int32) (ov_task : Nat → Int32) (ov_taskA : Nat → Int32) (ov_taskB : Nat → Int32), v_labels.toInt ≤ ov_labels.toInt → ov_labels.toInt ≤ v_labels.toInt + 2 → 0 ≤ ov_labels.toInt → 0 ≤ ov_tasks.toInt + 1 → 0 ≤ ov_tasks.toInt → 1 ≤ ov_tasks.toInt → ov_tasks.toInt ≤ 5999 → v_tasks.toInt ≤ ov_tasks.toInt → ov_tasks.toInt ≤ v_tasks.toInt + 70 → 1 ≤ ov_labels.toInt → (zWp v_sort v_value v_end v_act v_actA v_actB v_labelAt ov_task ov_taskA ov_taskB gZ gbs gn9 gfi v_acts.toInt ov_labels.toInt ov_tasks.toInt gC gsi (p2.toInt) gB1 gB2) → (zEQ gE gP ov_task ov_taskA ov_tasks.toInt gB3) → Q ov_labels ov_tasks ov_task ov_taskA ov_taskB) : w_X12_compileCopies p1 p2 v_labels v_tasks v_value v_least v_most v_task v_taskA v_taskB Q := by
  have q_t : (bz true).toInt = 1 := rfl
  have q_f : (bz false).toInt = 0 := rfl
  have q_0 : (0 : Int32).toInt = 0 := rfl
  have q_3 : (3 : Int32).toInt = 3 := rfl
  have q_4 : (4 : Int32).toInt = 4 := rfl
  have q_5 : (5 : Int32).toInt = 5 := rfl
  have q_100 : (100 : Int32).toInt = 100 := rfl
  have q_101 : (101 : Int32).toInt = 101 := rfl
  unfold w_X12_compileCopies
  have hlm := zN_lm u0
  refine ok_X12_newLabel (by omega) (by omega) (fun r1 r1_0 f1 f2 => ?_)
  refine ⟨i_in (by omega) (by omega), ?_⟩
  intro x10 ex10
  have j_20 : ∀ (s0_20 : Int32), ((s0_20.toInt = 3) ∨ (s0_20.toInt = 4)) → (s0_20.toInt = 3 ∨ s0_20.toInt = 4) → w_X12_compileCopies_20 p1 p2 v_least v_most Q s0_20 r1 r1_0 v_tasks v_task v_taskA v_taskB := by
    intro s0_20 f3 u20_0
    unfold w_X12_compileCopies_20
    refine ok_X12_later (by omega) (by omega) (fun r27_0 r27_1 r27_2 r27_3 f4 u27_0 u27_1 u27_2 => ?_)
    have h27 := zCp_0 (t := 0) (ll := v_labels.toInt) (lb' := r1_0.toInt) (m' := r27_0.toInt) u0 u27_0 u27_1 u27_2 u1 u2 (by decide) (by omega) (by omega) (by omega) rfl rfl
    have hE27 := zEp_0 (m' := r27_0.toInt) u4 u27_0 u27_1 (by decide) (by omega) (by omega)
    refine ⟨i_in (by omega) (by omega), ?_⟩
    intro x35 ex35
    have h35 := zg_at2 ex35 u3
    have j_81 : ∀ (v_labels_81 : Int32) (v_tasks_81 : Int32) (v_task_81 : Nat → Int32) (v_taskA_81 : Nat → Int32) (v_taskB_81 : Nat → Int32), v_labels.toInt ≤ v_labels_81.toInt → v_tasks.toInt ≤ v_tasks_81.toInt → v_tasks_81.toInt ≤ v_tasks.toInt + 70 → v_labels_81.toInt ≤ v_labels.toInt + 2 → v_tasks_81.toInt ≤ v_tasks.toInt + 5 → ((v_labels_81.toInt = r1_0.toInt ∧ v_tasks_81.toInt = r27_0.toInt) ∨ (v_labels_81.toInt = r1_0.toInt + 1 ∧ v_tasks_81.toInt = r27_0.toInt + 4)) → (zCp v_sort v_value v_end v_act v_actA v_actB v_labelAt v_task_81 v_taskA_81 v_taskB_81 gZ gbs gn9 gfi v_acts.toInt v_labels_81.toInt v_tasks_81.toInt gC gsi gta v_labels.toInt p2.toInt (zT1 v_most (gbs + p2.toInt)) gB1 gB2) → (zEp gE gP v_task_81 v_taskA_81 v_tasks_81.toInt p2.toInt (zT1 v_most (gbs + p2.toInt)) gB3) → w_X12_compileCopies_81 p1 p2 v_least v_most Q r1 s0_20 v_labels_81 v_tasks_81 v_task_81 v_taskA_81 v_taskB_81 := by
      intro v_labels_81 v_tasks_81 v_task_81 v_taskA_81 v_taskB_81 f5 f6 f7 f8 f9 f10 u81_0 u81_1
      unfold w_X12_compileCopies_81
      refine ⟨i_in (by omega) (by omega), ?_⟩
      intro x86 ex86
      have h86 := zg_at2 ex86 u3
      have f11 : (0 ≤ x86.toInt ∧ x86.toInt ≤ 20) := by omega
      have j_89 : ∀ n_89 : Nat, ∀ (l5_89 : Int32) (v_tasks_89 : Int32) (v_task_89 : Nat → Int32) (v_taskA_89 : Nat → Int32) (v_taskB_89 : Nat → Int32), x86.toInt ≤ l5_89.toInt → v_tasks_81.toInt ≤ v_tasks_89.toInt → v_tasks_89.toInt ≤ 2 * l5_89.toInt + v_tasks.toInt + 5 → l5_89.toInt ≤ 20 → (zCp v_sort v_value v_end v_act v_actA v_actB v_labelAt v_task_89 v_taskA_89 v_taskB_89 gZ gbs gn9 gfi v_acts.toInt v_labels_81.toInt v_tasks_89.toInt gC gsi gta v_labels.toInt p2.toInt (zT1 v_most (gbs + p2.toInt) + (l5_89.toInt - zg v_least (gbs + p2.toInt))) gB1 gB2) → ((l5_89.toInt = zg v_least (gbs + p2.toInt) ∨ l5_89.toInt ≤ zg v_most (gbs + p2.toInt)) ∧ zg v_least (gbs + p2.toInt) ≤ l5_89.toInt) → (zEp gE gP v_task_89 v_taskA_89 v_tasks_89.toInt p2.toInt (zT1 v_most (gbs + p2.toInt) + (l5_89.toInt - zg v_least (gbs + p2.toInt))) gB3) → ((-1) * l5_89.toInt + 100).toNat < n_89 → w_X12_compileCopies_89 p1 p2 v_least v_most Q r1 s0_20 v_labels_81 n_89 l5_89 v_tasks_89 v_task_89 v_taskA_89 v_taskB_89 := by
        intro n_89
        induction n_89 with
        | zero =>
          intro l5_89 v_tasks_89 v_task_89 v_taskA_89 v_taskB_89 f12 f13 f14 f15 u89_0 u89_1 u89_2 hm_89
          exfalso; omega
        | succ n_89 ih_89 =>
          intro l5_89 v_tasks_89 v_task_89 v_taskA_89 v_taskB_89 f12 f13 f14 f15 u89_0 u89_1 u89_2 hm_89
          unfold w_X12_compileCopies_89
          unfold w_X12_compileCopies_89B
          refine ⟨i_in (by omega) (by omega), ?_⟩
          intro x96 ex96
          have f16 : x96.toInt = x35.toInt := congrArg Int32.toInt (ex96.trans ex35.symm)
          have h96 := zg_at2 ex96 u3
          have f17 : (0 ≤ x96.toInt + 1 ∧ x96.toInt ≤ 20) := by omega
          refine ⟨fun c97 => ?_, fun c97 => ?_⟩
          · have f18 : x96.toInt ≤ l5_89.toInt := i_le (a := x96.toInt) (b := l5_89.toInt) rfl rfl c97
            have j_127 : ∀ n_127 : Nat, ∀ (l5_127 : Int32) (v_tasks_127 : Int32) (v_task_127 : Nat → Int32) (v_taskA_127 : Nat → Int32) (v_taskB_127 : Nat → Int32), l5_127.toInt ≤ v_tasks_127.toInt → v_tasks_89.toInt ≤ v_tasks_127.toInt → v_tasks_127.toInt ≤ l5_127.toInt + v_tasks.toInt + 45 → 0 ≤ l5_127.toInt → l5_127.toInt ≤ 20 → (zCp v_sort v_value v_end v_act v_actA v_actB v_labelAt v_task_127 v_taskA_127 v_taskB_127 gZ gbs gn9 gfi v_acts.toInt v_labels_81.toInt v_tasks_127.toInt gC gsi gta v_labels.toInt p2.toInt (zT0 v_least v_most (gbs + p2.toInt) + l5_127.toInt) gB1 gB2) → (l5_127.toInt ≤ zg v_least (gbs + p2.toInt)) → (zEp gE gP v_task_127 v_taskA_127 v_tasks_127.toInt p2.toInt (zT0 v_least v_most (gbs + p2.toInt) + l5_127.toInt) gB3) → ((-1) * l5_127.toInt + 100).toNat < n_127 → w_X12_compileCopies_127 p1 p2 v_least Q v_labels_81 n_127 l5_127 v_tasks_127 v_task_127 v_taskA_127 v_taskB_127 := by
              intro n_127
              induction n_127 with
              | zero =>
                intro l5_127 v_tasks_127 v_task_127 v_taskA_127 v_taskB_127 f19 f20 f21 f22 f23 u127_0 u127_1 u127_2 hm_127
                exfalso; omega
              | succ n_127 ih_127 =>
                intro l5_127 v_tasks_127 v_task_127 v_taskA_127 v_taskB_127 f19 f20 f21 f22 f23 u127_0 u127_1 u127_2 hm_127
                unfold w_X12_compileCopies_127
                unfold w_X12_compileCopies_127B
                refine ⟨i_in (by omega) (by omega), ?_⟩
                intro x134 ex134
                have f24 : x134.toInt = x86.toInt := congrArg Int32.toInt (ex134.trans ex86.symm)
                have h134 := zg_at2 ex134 u3
                have f25 : (0 ≤ x134.toInt ∧ x134.toInt ≤ 20) := by omega
                refine ⟨fun c135 => ?_, fun c135 => ?_⟩
                · have f26 : x134.toInt ≤ l5_127.toInt := i_le (a := x134.toInt) (b := l5_127.toInt) rfl rfl c135
                  exact hq v_labels_81 v_tasks_127 v_task_127 v_taskA_127 v_taskB_127 (by omega) (by omega) (by omega) (by omega) (by omega) (by omega) (by omega) (by omega) (by omega) (by omega) (by exact zCp_e u0 u127_0 u1 u2 (by omega)) (by exact zEp_e u0 u4 u127_2 u1 (by omega))
                · have f27 : l5_127.toInt < x134.toInt := i_nle (a := x134.toInt) (b := l5_127.toInt) rfl rfl c135
                  intro x143 ex143
                  have f28 : x143.toInt = p2.toInt + 1 := i_add (a := p2.toInt) (b := 1) ex143 rfl rfl (by omega) (by omega)
                  refine ok_X12_later (by omega) (by omega) (fun r145_0 r145_1 r145_2 r145_3 f29 u145_0 u145_1 u145_2 => ?_)
                  intro x148 ex148
                  have f30 : x148.toInt = l5_127.toInt + 1 := i_add (a := l5_127.toInt) (b := 1) ex148 rfl rfl (by omega) (by omega)
                  exact ih_127 x148 r145_0 r145_1 r145_2 r145_3  (by omega) (by omega) (by omega) (by omega) (by omega) (by first | exact zCp_n u0 u127_0 u145_0 u145_1 u145_2 u1 u2 (by decide) (by omega) (by omega) (by omega) | (rw [← zT_e (L' := (0 : Int32).toInt) u89_1.1 u89_1.2 (by omega) hlm.2.2 hlm.1.1 rfl]; exact u89_0)) (by first | omega | exact hlm.1.1) (by first | exact zEp_n u0 u4 u127_2 u145_0 u145_1 u1 (by decide) (by omega) (by omega) (by omega) (by omega) | exact zEp_t u89_2 (zT_e (L' := (0 : Int32).toInt) u89_1.1 u89_1.2 (by omega) hlm.2.2 hlm.1.1 rfl)) (by have h8_0 := i_rng l5_127; have h8_1 := i_rng x148; omega)
            exact ⟨(100 : Int).toNat + 1, j_127   ((100 : Int).toNat + 1) 0 v_tasks_89 v_task_89 v_taskA_89 v_taskB_89  (by omega) (by omega) (by omega) (by omega) (by omega) (by first | exact zCp_n u0 u127_0 u145_0 u145_1 u145_2 u1 u2 (by decide) (by omega) (by omega) (by omega) | (rw [← zT_e (L' := (0 : Int32).toInt) u89_1.1 u89_1.2 (by omega) hlm.2.2 hlm.1.1 rfl]; exact u89_0)) (by first | omega | exact hlm.1.1) (by first | exact zEp_n u0 u4 u127_2 u145_0 u145_1 u1 (by decide) (by omega) (by omega) (by omega) (by omega) | exact zEp_t u89_2 (zT_e (L' := (0 : Int32).toInt) u89_1.1 u89_1.2 (by omega) hlm.2.2 hlm.1.1 rfl)) (by omega)⟩
          · have f31 : l5_89.toInt < x96.toInt := i_nle (a := x96.toInt) (b := l5_89.toInt) rfl rfl c97
            intro x105 ex105
            have f32 : x105.toInt = p2.toInt + 1 := i_add (a := p2.toInt) (b := 1) ex105 rfl rfl (by omega) (by omega)
            refine ok_X12_later (by omega) (by omega) (fun r107_0 r107_1 r107_2 r107_3 f33 u107_0 u107_1 u107_2 => ?_)
            refine ok_X12_later (by omega) (by omega) (fun r115_0 r115_1 r115_2 r115_3 f34 u115_0 u115_1 u115_2 => ?_)
            intro x118 ex118
            have f35 : x118.toInt = l5_89.toInt + 1 := i_add (a := l5_89.toInt) (b := 1) ex118 rfl rfl (by omega) (by omega)
            exact ih_89 x118 r115_0 r115_1 r115_2 r115_3  (by omega) (by omega) (by omega) (by omega) (by first | exact zCp_s u0 u89_0 u107_0 u107_1 u107_2 u115_0 u115_1 u115_2 u1 u2 (by decide) u20_0 (by omega) (by omega) (by omega) (by omega) (by omega) (by omega) | (rw [show zT1 v_most (gbs + p2.toInt) + (x86.toInt - zg v_least (gbs + p2.toInt)) = zT1 v_most (gbs + p2.toInt) by omega]; exact u81_0)) (by omega) (by first | exact zEp_o (zEp_n u0 u4 u89_2 u107_0 u107_1 u1 (by decide) (by omega) (by omega) (by omega) (by omega)) u115_0 u115_1 (by omega) (by omega) (by omega) (by omega) | exact zEp_t u81_1 (by omega)) (by have h8_0 := i_rng l5_89; have h8_1 := i_rng x118; omega)
      exact ⟨((-1) * x86.toInt + 100).toNat + 1, j_89   (((-1) * x86.toInt + 100).toNat + 1) x86 v_tasks_81 v_task_81 v_taskA_81 v_taskB_81  (by omega) (by omega) (by omega) (by omega) (by first | exact zCp_s u0 u89_0 u107_0 u107_1 u107_2 u115_0 u115_1 u115_2 u1 u2 (by decide) u20_0 (by omega) (by omega) (by omega) (by omega) (by omega) (by omega) | (rw [show zT1 v_most (gbs + p2.toInt) + (x86.toInt - zg v_least (gbs + p2.toInt)) = zT1 v_most (gbs + p2.toInt) by omega]; exact u81_0)) (by omega) (by first | exact zEp_o (zEp_n u0 u4 u89_2 u107_0 u107_1 u1 (by decide) (by omega) (by omega) (by omega) (by omega)) u115_0 u115_1 (by omega) (by omega) (by omega) (by omega) | exact zEp_t u81_1 (by omega)) (by omega)⟩
    refine ⟨fun c37 => ?_, fun c37 => ?_⟩
    · have f36 : x35.toInt ≠ (-1) := i_ne (a := x35.toInt) (b := (-1)) rfl rfl c37
      exact j_81 r1_0 r27_0 r27_1 r27_2 r27_3 (by omega) (by omega) (by omega) (by omega) (by omega) (by omega) (by first | exact zCp_a u0 h27 u51_0 u51_1 u51_2 u61_0 u61_1 u61_2 u69_0 u69_1 u69_2 u78_0 u78_1 u78_2 u1 u2 ⟨by decide, by decide, u20_0, by decide⟩ ⟨by omega, by omega, by omega, by omega⟩ (by omega) ⟨by omega, by omega, by omega, by omega⟩ (by omega) rfl (if_pos (by omega)) | (rw [show zT1 v_most (gbs + p2.toInt) = 0 from if_neg (by omega)]; exact zCp_w h27)) (by first | exact zEp_t (zEp_o (zEp_o (zEp_n u0 u4 (zEp_o hE27 u51_0 u51_1 (by decide) (by decide) (by omega) (by omega)) u61_0 u61_1 u1 (by decide) (by omega) (by omega) (by omega) rfl) u69_0 u69_1 (by omega) (by omega) (by omega) (by omega)) u78_0 u78_1 (by decide) (by decide) (by omega) (by omega)) (by rw [show zT1 v_most (gbs + p2.toInt) = 1 from if_pos (by omega)]; rfl) | exact zEp_t hE27 (by rw [show zT1 v_most (gbs + p2.toInt) = 0 from if_neg (by omega)]))
    · have f37 : x35.toInt = (-1) := i_eq (a := x35.toInt) (b := (-1)) rfl rfl c37
      refine ok_X12_newLabel (by omega) (by omega) (fun r41 r41_0 f38 f39 => ?_)
      refine ok_X12_later (by omega) (by omega) (fun r51_0 r51_1 r51_2 r51_3 f40 u51_0 u51_1 u51_2 => ?_)
      intro x59 ex59
      have f41 : x59.toInt = p2.toInt + 1 := i_add (a := p2.toInt) (b := 1) ex59 rfl rfl (by omega) (by omega)
      refine ok_X12_later (by omega) (by omega) (fun r61_0 r61_1 r61_2 r61_3 f42 u61_0 u61_1 u61_2 => ?_)
      refine ok_X12_later (by omega) (by omega) (fun r69_0 r69_1 r69_2 r69_3 f43 u69_0 u69_1 u69_2 => ?_)
      refine ok_X12_later (by omega) (by omega) (fun r78_0 r78_1 r78_2 r78_3 f44 u78_0 u78_1 u78_2 => ?_)
      exact j_81 r41_0 r78_0 r78_1 r78_2 r78_3 (by omega) (by omega) (by omega) (by omega) (by omega) (by omega) (by first | exact zCp_a u0 h27 u51_0 u51_1 u51_2 u61_0 u61_1 u61_2 u69_0 u69_1 u69_2 u78_0 u78_1 u78_2 u1 u2 ⟨by decide, by decide, u20_0, by decide⟩ ⟨by omega, by omega, by omega, by omega⟩ (by omega) ⟨by omega, by omega, by omega, by omega⟩ (by omega) rfl (if_pos (by omega)) | (rw [show zT1 v_most (gbs + p2.toInt) = 0 from if_neg (by omega)]; exact zCp_w h27)) (by first | exact zEp_t (zEp_o (zEp_o (zEp_n u0 u4 (zEp_o hE27 u51_0 u51_1 (by decide) (by decide) (by omega) (by omega)) u61_0 u61_1 u1 (by decide) (by omega) (by omega) (by omega) rfl) u69_0 u69_1 (by omega) (by omega) (by omega) (by omega)) u78_0 u78_1 (by decide) (by decide) (by omega) (by omega)) (by rw [show zT1 v_most (gbs + p2.toInt) = 1 from if_pos (by omega)]; rfl) | exact zEp_t hE27 (by rw [show zT1 v_most (gbs + p2.toInt) = 0 from if_neg (by omega)]))
  refine ⟨fun c12 => ?_, fun c12 => ?_⟩
  · have f45 : x10.toInt ≠ 1 := i_ne (a := x10.toInt) (b := 1) rfl rfl c12
    exact j_20 3 (by omega) (by first | exact Or.inl rfl | exact Or.inr rfl)
  · have f46 : x10.toInt = 1 := i_eq (a := x10.toInt) (b := 1) rfl rfl c12
    exact j_20 4 (by omega) (by first | exact Or.inl rfl | exact Or.inr rfl)
