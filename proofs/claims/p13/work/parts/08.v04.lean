set_option maxHeartbeats 4000000 in
theorem ok_X12_compileNode {p1 : Int32} {p2 : Int32} {p3 : Int32} {v_labels : Int32} {v_tasks : Int32} {v_sort : Nat → Int32} {v_value : Nat → Int32} {v_least : Nat → Int32} {v_most : Nat → Int32} {v_end : Nat → Int32} {v_task : Nat → Int32} {v_taskA : Nat → Int32} {v_taskB : Nat → Int32} {v_held : Nat → Int32} {gZ : Int → Int} {gC : Int → zT} {gL : Int → zT} {gsi : zT} {gs0 : zT} {gta : zT} {gbs : Int} {gq9 : Int} {gn9 : Int} {gc9 : Int} {gfi : Int} {gB1 : Int} {gB2 : Int} {v_holder : Nat → Int32} {v_parts : Nat → Int32} {v_firstPart : Nat → Int32} {v_partBegin : Nat → Int32} {v_partEnd : Nat → Int32} {v_act : Nat → Int32} {v_actA : Nat → Int32} {v_actB : Nat → Int32} {v_labelAt : Nat → Int32} {v_acts : Int32} {Q : Int32 → Int32 → (Nat → Int32) → (Nat → Int32) → (Nat → Int32) → (Nat → Int32) → Prop} (a0 : 0 ≤ p3.toInt) (a1 : p3.toInt ≤ 1) (a2 : 0 ≤ v_tasks.toInt) (a3 : v_tasks.toInt ≤ 4900) (a4 : 0 ≤ v_labels.toInt) (a5 : v_labels.toInt ≤ 2700) (a6 : 0 ≤ p1.toInt) (a7 : p1.toInt ≤ 5) (a8 : 0 ≤ p2.toInt) (a9 : p2.toInt ≤ 219) (u0 : zND v_sort v_value v_least v_most v_holder v_parts v_end v_firstPart v_partBegin v_partEnd v_act v_actA v_actB v_labelAt v_task v_taskA v_taskB gZ gbs gq9 gn9 gc9 gfi v_acts.toInt v_labels.toInt v_tasks.toInt gC gL gsi gs0 gta (p2.toInt) gB1 gB2) (u1 : gbs = 220 * p1.toInt) (u2 : (gfi = 1 ∧ p3.toInt ≠ 0) ∨ (gfi = 0 ∧ p3.toInt = 0)) (hq : ∀ (ov_labels : Int32) (ov_tasks : Int32) (ov_task : Nat → Int32) (ov_taskA : Nat → Int32) (ov_taskB : Nat → Int32) (ov_held : Nat → Int32), v_labels.toInt ≤ ov_labels.toInt → v_tasks.toInt ≤ ov_tasks.toInt → ov_labels.toInt ≤ 2999 → ov_tasks.toInt ≤ 5999 → (zWp v_sort v_value v_end v_act v_actA v_actB v_labelAt ov_task ov_taskA ov_taskB gZ gbs gn9 gfi v_acts.toInt ov_labels.toInt ov_tasks.toInt gC gsi (p2.toInt) gB1 gB2) → Q ov_labels ov_tasks ov_task ov_taskA ov_taskB ov_held) : w_X12_compileNode p1 p2 p3 v_labels v_tasks v_sort v_value v_least v_most v_end v_task v_taskA v_taskB v_held Q := by
  have q_t : (bz true).toInt = 1 := rfl
  have q_f : (bz false).toInt = 0 := rfl
  have q_0 : (0 : Int32).toInt = 0 := rfl
  have q_1 : (1 : Int32).toInt = 1 := rfl
  have q_2 : (2 : Int32).toInt = 2 := rfl
  have q_6 : (6 : Int32).toInt = 6 := rfl
  have q_7 : (7 : Int32).toInt = 7 := rfl
  have q_11 : (11 : Int32).toInt = 11 := rfl
  have q_12 : (12 : Int32).toInt = 12 := rfl
  have q_21 : (21 : Int32).toInt = 21 := rfl
  have q_100 : (100 : Int32).toInt = 100 := rfl
  unfold w_X12_compileNode
  have hr9 := zN_r u0
  intro x4 ex4
  have f1 : x4.toInt = 220 * p1.toInt := i_mul (a := 220) (b := p1.toInt) ex4 rfl rfl (by omega) (by omega)
  intro x10 ex10
  have f2 : x10.toInt = x4.toInt + p2.toInt := i_add (a := x4.toInt) (b := p2.toInt) ex10 rfl rfl (by omega) (by omega)
  intro x18 ex18
  have f3 : x18.toInt = p2.toInt + 1 := i_add (a := p2.toInt) (b := 1) ex18 rfl rfl (by omega) (by omega)
  have j_21 : ∀ n_21 : Nat, ∀ (l6_21 : Int32) (l7_21 : Int32) (v_held_21 : Nat → Int32), 0 ≤ l6_21.toInt → l7_21.toInt ≤ 220 → l6_21.toInt + p2.toInt + 1 ≤ l7_21.toInt → (zHl v_held_21 v_end gbs l6_21.toInt l7_21.toInt p2.toInt (zg v_end (gbs + p2.toInt))) → ((-1) * l6_21.toInt + 2147483648).toNat < n_21 → w_X12_compileNode_21 p2 p3 v_sort v_value v_least v_most v_end Q x4 x10 v_labels v_tasks v_task v_taskA v_taskB n_21 l6_21 l7_21 v_held_21 := by
    intro n_21
    induction n_21 with
    | zero =>
      intro l6_21 l7_21 v_held_21 f4 f5 f6 u21_0 hm_21
      exfalso; omega
    | succ n_21 ih_21 =>
      intro l6_21 l7_21 v_held_21 f4 f5 f6 u21_0 hm_21
      unfold w_X12_compileNode_21
      unfold w_X12_compileNode_21B
      refine ⟨i_in (by omega) (by omega), ?_⟩
      intro x29 ex29
      have h29 := zg_at2 (k := gbs + p2.toInt) ex29 (by omega)
      have f7 : (p2.toInt + 1 ≤ x29.toInt ∧ x29.toInt ≤ 220) := by omega
      refine ⟨fun c30 => ?_, fun c30 => ?_⟩
      · have f8 : x29.toInt ≤ l7_21.toInt := i_le (a := x29.toInt) (b := l7_21.toInt) rfl rfl c30
        have hH9 := zHl_e u21_0 (by omega)
        refine ⟨i_in (by omega) (by omega), ?_⟩
        intro x66 ex66
        have h66 := zg_at2 (k := gbs + p2.toInt) ex66 (by omega)
        have f9 : (0 ≤ x66.toInt ∧ x66.toInt ≤ 11) := by omega
        have j_315 : ∀ (v_labels_315 : Int32) (v_tasks_315 : Int32) (v_task_315 : Nat → Int32) (v_taskA_315 : Nat → Int32) (v_taskB_315 : Nat → Int32), v_labels.toInt ≤ v_labels_315.toInt → v_tasks.toInt ≤ v_tasks_315.toInt → v_labels_315.toInt ≤ 2999 → v_tasks_315.toInt ≤ 5999 → (zWp v_sort v_value v_end v_act v_actA v_actB v_labelAt v_task_315 v_taskA_315 v_taskB_315 gZ gbs gn9 gfi v_acts.toInt v_labels_315.toInt v_tasks_315.toInt gC gsi (p2.toInt) gB1 gB2) → w_X12_compileNode_315 Q v_labels_315 v_tasks_315 v_task_315 v_taskA_315 v_taskB_315 v_held_21 := by
          intro v_labels_315 v_tasks_315 v_task_315 v_taskA_315 v_taskB_315 f10 f11 f12 f13 u315_0
          unfold w_X12_compileNode_315
          exact hq v_labels_315 v_tasks_315 v_task_315 v_taskA_315 v_taskB_315 v_held_21 (by omega) (by omega) (by omega) (by omega) (by assumption)
        refine ⟨fun c67_0 => ?_, fun c67_1 => ?_, fun c67_2 => ?_, fun c67_3 => ?_, fun c67_4 => ?_, fun c67_5 => ?_, fun c67_6 => ?_, fun c67_7 => ?_, fun c67_8 => ?_, ?_⟩
        · have f14 : x66.toInt = 3 := i_eq (a := x66.toInt) (b := 3) rfl rfl c67_0
          refine ok_X12_later (by omega) (by omega) (fun r120_0 r120_1 r120_2 r120_3 f15 u120_0 u120_1 u120_2 => ?_)
          exact j_315 v_labels r120_0 r120_1 r120_2 r120_3 (by omega) (by omega) (by omega) (by omega) (by first | exact zN_l u0 u120_0 u120_1 u120_2 (Or.inr (Or.inl (by decide))) rfl (by omega) (by omega) | exact zN_l u0 u130_0 u130_1 u130_2 (Or.inr (Or.inr ⟨by decide, by omega⟩)) rfl (by omega) (by omega) | exact zRo_e u0 hH9 u142_0 (by omega) (by omega) | exact zC_n u0 u173_0 u185_0 u185_1 u185_2 (by omega) (by omega) (by decide) (by decide) (by omega) | exact zC_f u0 u173_0 (by omega) (by omega) | exact u199_0 | exact u209_0 | exact zN_k u0 u226_0 u226_1 u226_2 u236_0 u236_1 u236_2 u250_0 u250_1 u250_2 (by omega) (by decide) (by decide) (by decide) (zg_at2 ex224 (by omega)) (by omega) (zg_at2 ex248 (by omega)) (by omega) (by omega) (by omega) | exact u260_0 | exact zN_t u0 u271_0 u271_1 u271_2 u281_0 u281_1 u281_2 u289_0 u289_1 u289_2 (by omega) (by decide) (by decide) (by decide) rfl (by omega) rfl (by omega) (by omega) (by omega) | exact zN_c u0 u302_0 u302_1 u302_2 (by decide) (by omega) (by omega) (by omega) | exact zN_l u0 u312_0 u312_1 u312_2 (Or.inl ⟨by decide, by omega⟩) rfl (by omega) (by omega))
        · have f16 : x66.toInt = 4 := i_eq (a := x66.toInt) (b := 4) rfl rfl c67_1
          refine ok_X12_later (by omega) (by omega) (fun r130_0 r130_1 r130_2 r130_3 f17 u130_0 u130_1 u130_2 => ?_)
          exact j_315 v_labels r130_0 r130_1 r130_2 r130_3 (by omega) (by omega) (by omega) (by omega) (by first | exact zN_l u0 u120_0 u120_1 u120_2 (Or.inr (Or.inl (by decide))) rfl (by omega) (by omega) | exact zN_l u0 u130_0 u130_1 u130_2 (Or.inr (Or.inr ⟨by decide, by omega⟩)) rfl (by omega) (by omega) | exact zRo_e u0 hH9 u142_0 (by omega) (by omega) | exact zC_n u0 u173_0 u185_0 u185_1 u185_2 (by omega) (by omega) (by decide) (by decide) (by omega) | exact zC_f u0 u173_0 (by omega) (by omega) | exact u199_0 | exact u209_0 | exact zN_k u0 u226_0 u226_1 u226_2 u236_0 u236_1 u236_2 u250_0 u250_1 u250_2 (by omega) (by decide) (by decide) (by decide) (zg_at2 ex224 (by omega)) (by omega) (zg_at2 ex248 (by omega)) (by omega) (by omega) (by omega) | exact u260_0 | exact zN_t u0 u271_0 u271_1 u271_2 u281_0 u281_1 u281_2 u289_0 u289_1 u289_2 (by omega) (by decide) (by decide) (by decide) rfl (by omega) rfl (by omega) (by omega) (by omega) | exact zN_c u0 u302_0 u302_1 u302_2 (by decide) (by omega) (by omega) (by omega) | exact zN_l u0 u312_0 u312_1 u312_2 (Or.inl ⟨by decide, by omega⟩) rfl (by omega) (by omega))
        · have f18 : x66.toInt = 5 := i_eq (a := x66.toInt) (b := 5) rfl rfl c67_2
          intro x139 ex139
          have f19 : x139.toInt = l6_21.toInt - 1 := i_sub (a := l6_21.toInt) (b := 1) ex139 rfl rfl (by omega) (by omega)
          have j_142 : ∀ n_142 : Nat, ∀ (l7_142 : Int32) (v_tasks_142 : Int32) (v_task_142 : Nat → Int32) (v_taskA_142 : Nat → Int32) (v_taskB_142 : Nat → Int32), l7_142.toInt ≤ x139.toInt → l7_142.toInt + v_tasks_142.toInt ≤ v_tasks.toInt + 220 → 0 ≤ l7_142.toInt + 1 → v_tasks.toInt ≤ v_tasks_142.toInt → (zRo v_sort v_value v_end v_act v_actA v_actB v_labelAt v_task_142 v_taskA_142 v_taskB_142 gZ gbs gn9 gfi v_acts.toInt v_labels.toInt v_tasks_142.toInt gC gL gsi gta gs0.1 (zhq v_held_21 l6_21.toInt (zg v_end (gbs + p2.toInt)) l7_142.toInt) (zg v_end (gbs + p2.toInt)) gB1 gB2) → (l7_142.toInt + 2147483649).toNat < n_142 → w_X12_compileNode_142 Q v_labels v_held_21 n_142 l7_142 v_tasks_142 v_task_142 v_taskA_142 v_taskB_142 := by
            intro n_142
            induction n_142 with
            | zero =>
              intro l7_142 v_tasks_142 v_task_142 v_taskA_142 v_taskB_142 f20 f21 f22 f23 u142_0 hm_142
              exfalso; omega
            | succ n_142 ih_142 =>
              intro l7_142 v_tasks_142 v_task_142 v_taskA_142 v_taskB_142 f20 f21 f22 f23 u142_0 hm_142
              unfold w_X12_compileNode_142
              unfold w_X12_compileNode_142B
              refine ⟨fun c144 => ?_, fun c144 => ?_⟩
              · have f24 : l7_142.toInt < 0 := i_lt (a := l7_142.toInt) (b := 0) rfl rfl c144
                exact j_315 v_labels v_tasks_142 v_task_142 v_taskA_142 v_taskB_142 (by omega) (by omega) (by omega) (by omega) (by first | exact zN_l u0 u120_0 u120_1 u120_2 (Or.inr (Or.inl (by decide))) rfl (by omega) (by omega) | exact zN_l u0 u130_0 u130_1 u130_2 (Or.inr (Or.inr ⟨by decide, by omega⟩)) rfl (by omega) (by omega) | exact zRo_e u0 hH9 u142_0 (by omega) (by omega) | exact zC_n u0 u173_0 u185_0 u185_1 u185_2 (by omega) (by omega) (by decide) (by decide) (by omega) | exact zC_f u0 u173_0 (by omega) (by omega) | exact u199_0 | exact u209_0 | exact zN_k u0 u226_0 u226_1 u226_2 u236_0 u236_1 u236_2 u250_0 u250_1 u250_2 (by omega) (by decide) (by decide) (by decide) (zg_at2 ex224 (by omega)) (by omega) (zg_at2 ex248 (by omega)) (by omega) (by omega) (by omega) | exact u260_0 | exact zN_t u0 u271_0 u271_1 u271_2 u281_0 u281_1 u281_2 u289_0 u289_1 u289_2 (by omega) (by decide) (by decide) (by decide) rfl (by omega) rfl (by omega) (by omega) (by omega) | exact zN_c u0 u302_0 u302_1 u302_2 (by decide) (by omega) (by omega) (by omega) | exact zN_l u0 u312_0 u312_1 u312_2 (Or.inl ⟨by decide, by omega⟩) rfl (by omega) (by omega))
              · have f25 : 0 ≤ l7_142.toInt := i_nlt (a := l7_142.toInt) (b := 0) rfl rfl c144
                refine ⟨i_in (by omega) (by omega), ?_⟩
                intro x156 ex156
                refine ok_X12_later (by omega) (by omega) (fun r158_0 r158_1 r158_2 r158_3 f26 u158_0 u158_1 u158_2 => ?_)
                intro x161 ex161
                have f27 : x161.toInt = l7_142.toInt + (-1) := i_add (a := l7_142.toInt) (b := (-1)) ex161 rfl rfl (by omega) (by omega)
                exact ih_142 x161 r158_0 r158_1 r158_2 r158_3  (by omega) (by omega) (by omega) (by omega) (by first | exact zRo_s u0 hH9 u142_0 u158_0 u158_1 u158_2 ex156 (by decide) (by omega) (by omega) (by omega) (by omega) | (rw [show zhq v_held_21 l6_21.toInt (zg v_end (gbs + p2.toInt)) _ = (zg v_end (gbs + p2.toInt)) from if_pos (by omega)]; exact zRo_0 u0)) (by have h8_0 := i_rng l7_142; have h8_1 := i_rng x161; omega)
          exact ⟨(x139.toInt + 2147483649).toNat + 1, j_142   ((x139.toInt + 2147483649).toNat + 1) x139 v_tasks v_task v_taskA v_taskB  (by omega) (by omega) (by omega) (by omega) (by first | exact zRo_s u0 hH9 u142_0 u158_0 u158_1 u158_2 ex156 (by decide) (by omega) (by omega) (by omega) (by omega) | (rw [show zhq v_held_21 l6_21.toInt (zg v_end (gbs + p2.toInt)) _ = (zg v_end (gbs + p2.toInt)) from if_pos (by omega)]; exact zRo_0 u0)) (by omega)⟩
        · have f28 : x66.toInt = 6 := i_eq (a := x66.toInt) (b := 6) rfl rfl c67_3
          have f29 : 1 ≤ l6_21.toInt := zN_6 u0 hH9 (by omega)
          refine ok_X12_compileChoice (gZ := gZ) (gC := gC) (gL := gL) (gsi := gsi) (gs0 := gs0) (gta := gta) (gbs := gbs) (gq9 := gq9) (gn9 := gn9) (gc9 := gc9) (gfi := gfi) (gB1 := gB1) (gB2 := gB2) (v_sort := v_sort) (v_value := v_value) (v_least := v_least) (v_most := v_most) (v_holder := v_holder) (v_parts := v_parts) (v_end := v_end) (v_firstPart := v_firstPart) (v_partBegin := v_partBegin) (v_partEnd := v_partEnd) (v_act := v_act) (v_actA := v_actA) (v_actB := v_actB) (v_labelAt := v_labelAt) (v_acts := v_acts) (gk := p2.toInt) (by omega) (by omega) (by omega) (by omega) (by omega) (by omega) (by exact u0) (by exact hH9) (fun r173_0 r173_1 r173_2 r173_3 r173_4 f30 f31 f32 f33 f34 f35 f36 f37 f38 f39 f40 f41 f42 f43 f44 f45 f46 f47 f48 f49 u173_0 => ?_)
          refine ⟨fun c177 => ?_, fun c177 => ?_⟩
          · have f50 : p3.toInt ≠ 0 := i_ne (a := p3.toInt) (b := 0) rfl rfl c177
            exact j_315 r173_0 r173_1 r173_2 r173_3 r173_4 (by omega) (by omega) (by omega) (by omega) (by first | exact zN_l u0 u120_0 u120_1 u120_2 (Or.inr (Or.inl (by decide))) rfl (by omega) (by omega) | exact zN_l u0 u130_0 u130_1 u130_2 (Or.inr (Or.inr ⟨by decide, by omega⟩)) rfl (by omega) (by omega) | exact zRo_e u0 hH9 u142_0 (by omega) (by omega) | exact zC_n u0 u173_0 u185_0 u185_1 u185_2 (by omega) (by omega) (by decide) (by decide) (by omega) | exact zC_f u0 u173_0 (by omega) (by omega) | exact u199_0 | exact u209_0 | exact zN_k u0 u226_0 u226_1 u226_2 u236_0 u236_1 u236_2 u250_0 u250_1 u250_2 (by omega) (by decide) (by decide) (by decide) (zg_at2 ex224 (by omega)) (by omega) (zg_at2 ex248 (by omega)) (by omega) (by omega) (by omega) | exact u260_0 | exact zN_t u0 u271_0 u271_1 u271_2 u281_0 u281_1 u281_2 u289_0 u289_1 u289_2 (by omega) (by decide) (by decide) (by decide) rfl (by omega) rfl (by omega) (by omega) (by omega) | exact zN_c u0 u302_0 u302_1 u302_2 (by decide) (by omega) (by omega) (by omega) | exact zN_l u0 u312_0 u312_1 u312_2 (Or.inl ⟨by decide, by omega⟩) rfl (by omega) (by omega))
          · have f51 : p3.toInt = 0 := i_eq (a := p3.toInt) (b := 0) rfl rfl c177
            refine ok_X12_later (by omega) (by omega) (fun r185_0 r185_1 r185_2 r185_3 f52 u185_0 u185_1 u185_2 => ?_)
            exact j_315 r173_0 r185_0 r185_1 r185_2 r185_3 (by omega) (by omega) (by omega) (by omega) (by first | exact zN_l u0 u120_0 u120_1 u120_2 (Or.inr (Or.inl (by decide))) rfl (by omega) (by omega) | exact zN_l u0 u130_0 u130_1 u130_2 (Or.inr (Or.inr ⟨by decide, by omega⟩)) rfl (by omega) (by omega) | exact zRo_e u0 hH9 u142_0 (by omega) (by omega) | exact zC_n u0 u173_0 u185_0 u185_1 u185_2 (by omega) (by omega) (by decide) (by decide) (by omega) | exact zC_f u0 u173_0 (by omega) (by omega) | exact u199_0 | exact u209_0 | exact zN_k u0 u226_0 u226_1 u226_2 u236_0 u236_1 u236_2 u250_0 u250_1 u250_2 (by omega) (by decide) (by decide) (by decide) (zg_at2 ex224 (by omega)) (by omega) (zg_at2 ex248 (by omega)) (by omega) (by omega) (by omega) | exact u260_0 | exact zN_t u0 u271_0 u271_1 u271_2 u281_0 u281_1 u281_2 u289_0 u289_1 u289_2 (by omega) (by decide) (by decide) (by decide) rfl (by omega) rfl (by omega) (by omega) (by omega) | exact zN_c u0 u302_0 u302_1 u302_2 (by decide) (by omega) (by omega) (by omega) | exact zN_l u0 u312_0 u312_1 u312_2 (Or.inl ⟨by decide, by omega⟩) rfl (by omega) (by omega))
        · have f53 : x66.toInt = 7 := i_eq (a := x66.toInt) (b := 7) rfl rfl c67_4
          refine ⟨fun c192 => ?_, fun c192 => ?_⟩
          · have f54 : p3.toInt = 0 := i_eq (a := p3.toInt) (b := 0) rfl rfl c192
            refine ok_X12_compileLoop (gZ := gZ) (gC := gC) (gL := gL) (gsi := gsi) (gs0 := gs0) (gta := gta) (gbs := gbs) (gq9 := gq9) (gn9 := gn9) (gc9 := gc9) (gfi := gfi) (gB1 := gB1) (gB2 := gB2) (v_sort := v_sort) (v_least := v_least) (v_most := v_most) (v_holder := v_holder) (v_parts := v_parts) (v_end := v_end) (v_firstPart := v_firstPart) (v_partBegin := v_partBegin) (v_partEnd := v_partEnd) (v_act := v_act) (v_actA := v_actA) (v_actB := v_actB) (v_labelAt := v_labelAt) (v_acts := v_acts) (by omega) (by omega) (by omega) (by omega) (by omega) (by omega) (by omega) (by omega) (by exact u0) (by omega) (by omega) (by omega) (fun r209_0 r209_1 r209_2 r209_3 r209_4 f55 f56 f57 f58 u209_0 => ?_)
            exact j_315 r209_0 r209_1 r209_2 r209_3 r209_4 (by omega) (by omega) (by omega) (by omega) (by first | exact zN_l u0 u120_0 u120_1 u120_2 (Or.inr (Or.inl (by decide))) rfl (by omega) (by omega) | exact zN_l u0 u130_0 u130_1 u130_2 (Or.inr (Or.inr ⟨by decide, by omega⟩)) rfl (by omega) (by omega) | exact zRo_e u0 hH9 u142_0 (by omega) (by omega) | exact zC_n u0 u173_0 u185_0 u185_1 u185_2 (by omega) (by omega) (by decide) (by decide) (by omega) | exact zC_f u0 u173_0 (by omega) (by omega) | exact u199_0 | exact u209_0 | exact zN_k u0 u226_0 u226_1 u226_2 u236_0 u236_1 u236_2 u250_0 u250_1 u250_2 (by omega) (by decide) (by decide) (by decide) (zg_at2 ex224 (by omega)) (by omega) (zg_at2 ex248 (by omega)) (by omega) (by omega) (by omega) | exact u260_0 | exact zN_t u0 u271_0 u271_1 u271_2 u281_0 u281_1 u281_2 u289_0 u289_1 u289_2 (by omega) (by decide) (by decide) (by decide) rfl (by omega) rfl (by omega) (by omega) (by omega) | exact zN_c u0 u302_0 u302_1 u302_2 (by decide) (by omega) (by omega) (by omega) | exact zN_l u0 u312_0 u312_1 u312_2 (Or.inl ⟨by decide, by omega⟩) rfl (by omega) (by omega))
          · have f59 : p3.toInt ≠ 0 := i_ne (a := p3.toInt) (b := 0) rfl rfl c192
            refine ok_X12_compileCopies (gZ := gZ) (gC := gC) (gL := gL) (gsi := gsi) (gs0 := gs0) (gta := gta) (gbs := gbs) (gq9 := gq9) (gn9 := gn9) (gc9 := gc9) (gfi := gfi) (gB1 := gB1) (gB2 := gB2) (v_sort := v_sort) (v_holder := v_holder) (v_parts := v_parts) (v_end := v_end) (v_firstPart := v_firstPart) (v_partBegin := v_partBegin) (v_partEnd := v_partEnd) (v_act := v_act) (v_actA := v_actA) (v_actB := v_actB) (v_labelAt := v_labelAt) (v_acts := v_acts) (by omega) (by omega) (by omega) (by omega) (by omega) (by omega) (by omega) (by omega) (by exact u0) (by omega) (by omega) (by omega) (fun r199_0 r199_1 r199_2 r199_3 r199_4 f60 f61 f62 f63 f64 f65 f66 f67 f68 f69 u199_0 => ?_)
            exact j_315 r199_0 r199_1 r199_2 r199_3 r199_4 (by omega) (by omega) (by omega) (by omega) (by first | exact zN_l u0 u120_0 u120_1 u120_2 (Or.inr (Or.inl (by decide))) rfl (by omega) (by omega) | exact zN_l u0 u130_0 u130_1 u130_2 (Or.inr (Or.inr ⟨by decide, by omega⟩)) rfl (by omega) (by omega) | exact zRo_e u0 hH9 u142_0 (by omega) (by omega) | exact zC_n u0 u173_0 u185_0 u185_1 u185_2 (by omega) (by omega) (by decide) (by decide) (by omega) | exact zC_f u0 u173_0 (by omega) (by omega) | exact u199_0 | exact u209_0 | exact zN_k u0 u226_0 u226_1 u226_2 u236_0 u236_1 u236_2 u250_0 u250_1 u250_2 (by omega) (by decide) (by decide) (by decide) (zg_at2 ex224 (by omega)) (by omega) (zg_at2 ex248 (by omega)) (by omega) (by omega) (by omega) | exact u260_0 | exact zN_t u0 u271_0 u271_1 u271_2 u281_0 u281_1 u281_2 u289_0 u289_1 u289_2 (by omega) (by decide) (by decide) (by decide) rfl (by omega) rfl (by omega) (by omega) (by omega) | exact zN_c u0 u302_0 u302_1 u302_2 (by decide) (by omega) (by omega) (by omega) | exact zN_l u0 u312_0 u312_1 u312_2 (Or.inl ⟨by decide, by omega⟩) rfl (by omega) (by omega))
        · have f70 : x66.toInt = 8 := i_eq (a := x66.toInt) (b := 8) rfl rfl c67_5
          refine ⟨i_in (by omega) (by omega), ?_⟩
          intro x224 ex224
          refine ok_X12_later (by omega) (by omega) (fun r226_0 r226_1 r226_2 r226_3 f71 u226_0 u226_1 u226_2 => ?_)
          intro x234 ex234
          have f72 : x234.toInt = p2.toInt + 1 := i_add (a := p2.toInt) (b := 1) ex234 rfl rfl (by omega) (by omega)
          refine ok_X12_later (by omega) (by omega) (fun r236_0 r236_1 r236_2 r236_3 f73 u236_0 u236_1 u236_2 => ?_)
          refine ⟨i_in (by omega) (by omega), ?_⟩
          intro x248 ex248
          have f74 : x248.toInt = x224.toInt := congrArg Int32.toInt (ex248.trans ex224.symm)
          refine ok_X12_later (by omega) (by omega) (fun r250_0 r250_1 r250_2 r250_3 f75 u250_0 u250_1 u250_2 => ?_)
          exact j_315 v_labels r250_0 r250_1 r250_2 r250_3 (by omega) (by omega) (by omega) (by omega) (by first | exact zN_l u0 u120_0 u120_1 u120_2 (Or.inr (Or.inl (by decide))) rfl (by omega) (by omega) | exact zN_l u0 u130_0 u130_1 u130_2 (Or.inr (Or.inr ⟨by decide, by omega⟩)) rfl (by omega) (by omega) | exact zRo_e u0 hH9 u142_0 (by omega) (by omega) | exact zC_n u0 u173_0 u185_0 u185_1 u185_2 (by omega) (by omega) (by decide) (by decide) (by omega) | exact zC_f u0 u173_0 (by omega) (by omega) | exact u199_0 | exact u209_0 | exact zN_k u0 u226_0 u226_1 u226_2 u236_0 u236_1 u236_2 u250_0 u250_1 u250_2 (by omega) (by decide) (by decide) (by decide) (zg_at2 ex224 (by omega)) (by omega) (zg_at2 ex248 (by omega)) (by omega) (by omega) (by omega) | exact u260_0 | exact zN_t u0 u271_0 u271_1 u271_2 u281_0 u281_1 u281_2 u289_0 u289_1 u289_2 (by omega) (by decide) (by decide) (by decide) rfl (by omega) rfl (by omega) (by omega) (by omega) | exact zN_c u0 u302_0 u302_1 u302_2 (by decide) (by omega) (by omega) (by omega) | exact zN_l u0 u312_0 u312_1 u312_2 (Or.inl ⟨by decide, by omega⟩) rfl (by omega) (by omega))
        · have f76 : x66.toInt = 9 := i_eq (a := x66.toInt) (b := 9) rfl rfl c67_6
          refine ok_X12_compileLook (gZ := gZ) (gC := gC) (gL := gL) (gsi := gsi) (gs0 := gs0) (gta := gta) (gbs := gbs) (gq9 := gq9) (gn9 := gn9) (gc9 := gc9) (gfi := gfi) (gB1 := gB1) (gB2 := gB2) (v_sort := v_sort) (v_least := v_least) (v_most := v_most) (v_holder := v_holder) (v_parts := v_parts) (v_end := v_end) (v_firstPart := v_firstPart) (v_partBegin := v_partBegin) (v_partEnd := v_partEnd) (v_act := v_act) (v_actA := v_actA) (v_actB := v_actB) (v_labelAt := v_labelAt) (v_acts := v_acts) (by omega) (by omega) (by omega) (by omega) (by omega) (by omega) (by omega) (by omega) (by exact u0) (by omega) (fun r260_0 r260_1 r260_2 r260_3 r260_4 f77 f78 u260_0 => ?_)
          exact j_315 r260_0 r260_1 r260_2 r260_3 r260_4 (by omega) (by omega) (by omega) (by omega) (by first | exact zN_l u0 u120_0 u120_1 u120_2 (Or.inr (Or.inl (by decide))) rfl (by omega) (by omega) | exact zN_l u0 u130_0 u130_1 u130_2 (Or.inr (Or.inr ⟨by decide, by omega⟩)) rfl (by omega) (by omega) | exact zRo_e u0 hH9 u142_0 (by omega) (by omega) | exact zC_n u0 u173_0 u185_0 u185_1 u185_2 (by omega) (by omega) (by decide) (by decide) (by omega) | exact zC_f u0 u173_0 (by omega) (by omega) | exact u199_0 | exact u209_0 | exact zN_k u0 u226_0 u226_1 u226_2 u236_0 u236_1 u236_2 u250_0 u250_1 u250_2 (by omega) (by decide) (by decide) (by decide) (zg_at2 ex224 (by omega)) (by omega) (zg_at2 ex248 (by omega)) (by omega) (by omega) (by omega) | exact u260_0 | exact zN_t u0 u271_0 u271_1 u271_2 u281_0 u281_1 u281_2 u289_0 u289_1 u289_2 (by omega) (by decide) (by decide) (by decide) rfl (by omega) rfl (by omega) (by omega) (by omega) | exact zN_c u0 u302_0 u302_1 u302_2 (by decide) (by omega) (by omega) (by omega) | exact zN_l u0 u312_0 u312_1 u312_2 (Or.inl ⟨by decide, by omega⟩) rfl (by omega) (by omega))
        · have f79 : x66.toInt = 10 := i_eq (a := x66.toInt) (b := 10) rfl rfl c67_7
          refine ok_X12_later (by omega) (by omega) (fun r271_0 r271_1 r271_2 r271_3 f80 u271_0 u271_1 u271_2 => ?_)
          intro x279 ex279
          have f81 : x279.toInt = p2.toInt + 1 := i_add (a := p2.toInt) (b := 1) ex279 rfl rfl (by omega) (by omega)
          refine ok_X12_later (by omega) (by omega) (fun r281_0 r281_1 r281_2 r281_3 f82 u281_0 u281_1 u281_2 => ?_)
          refine ok_X12_later (by omega) (by omega) (fun r289_0 r289_1 r289_2 r289_3 f83 u289_0 u289_1 u289_2 => ?_)
          exact j_315 v_labels r289_0 r289_1 r289_2 r289_3 (by omega) (by omega) (by omega) (by omega) (by first | exact zN_l u0 u120_0 u120_1 u120_2 (Or.inr (Or.inl (by decide))) rfl (by omega) (by omega) | exact zN_l u0 u130_0 u130_1 u130_2 (Or.inr (Or.inr ⟨by decide, by omega⟩)) rfl (by omega) (by omega) | exact zRo_e u0 hH9 u142_0 (by omega) (by omega) | exact zC_n u0 u173_0 u185_0 u185_1 u185_2 (by omega) (by omega) (by decide) (by decide) (by omega) | exact zC_f u0 u173_0 (by omega) (by omega) | exact u199_0 | exact u209_0 | exact zN_k u0 u226_0 u226_1 u226_2 u236_0 u236_1 u236_2 u250_0 u250_1 u250_2 (by omega) (by decide) (by decide) (by decide) (zg_at2 ex224 (by omega)) (by omega) (zg_at2 ex248 (by omega)) (by omega) (by omega) (by omega) | exact u260_0 | exact zN_t u0 u271_0 u271_1 u271_2 u281_0 u281_1 u281_2 u289_0 u289_1 u289_2 (by omega) (by decide) (by decide) (by decide) rfl (by omega) rfl (by omega) (by omega) (by omega) | exact zN_c u0 u302_0 u302_1 u302_2 (by decide) (by omega) (by omega) (by omega) | exact zN_l u0 u312_0 u312_1 u312_2 (Or.inl ⟨by decide, by omega⟩) rfl (by omega) (by omega))
        · have f84 : x66.toInt = 11 := i_eq (a := x66.toInt) (b := 11) rfl rfl c67_8
          intro x300 ex300
          have f85 : x300.toInt = p2.toInt + 1 := i_add (a := p2.toInt) (b := 1) ex300 rfl rfl (by omega) (by omega)
          refine ok_X12_later (by omega) (by omega) (fun r302_0 r302_1 r302_2 r302_3 f86 u302_0 u302_1 u302_2 => ?_)
          exact j_315 v_labels r302_0 r302_1 r302_2 r302_3 (by omega) (by omega) (by omega) (by omega) (by first | exact zN_l u0 u120_0 u120_1 u120_2 (Or.inr (Or.inl (by decide))) rfl (by omega) (by omega) | exact zN_l u0 u130_0 u130_1 u130_2 (Or.inr (Or.inr ⟨by decide, by omega⟩)) rfl (by omega) (by omega) | exact zRo_e u0 hH9 u142_0 (by omega) (by omega) | exact zC_n u0 u173_0 u185_0 u185_1 u185_2 (by omega) (by omega) (by decide) (by decide) (by omega) | exact zC_f u0 u173_0 (by omega) (by omega) | exact u199_0 | exact u209_0 | exact zN_k u0 u226_0 u226_1 u226_2 u236_0 u236_1 u236_2 u250_0 u250_1 u250_2 (by omega) (by decide) (by decide) (by decide) (zg_at2 ex224 (by omega)) (by omega) (zg_at2 ex248 (by omega)) (by omega) (by omega) (by omega) | exact u260_0 | exact zN_t u0 u271_0 u271_1 u271_2 u281_0 u281_1 u281_2 u289_0 u289_1 u289_2 (by omega) (by decide) (by decide) (by decide) rfl (by omega) rfl (by omega) (by omega) (by omega) | exact zN_c u0 u302_0 u302_1 u302_2 (by decide) (by omega) (by omega) (by omega) | exact zN_l u0 u312_0 u312_1 u312_2 (Or.inl ⟨by decide, by omega⟩) rfl (by omega) (by omega))
        · intro c67_0 c67_1 c67_2 c67_3 c67_4 c67_5 c67_6 c67_7 c67_8
          have f87 : x66.toInt ≠ 3 := i_ne (a := x66.toInt) (b := 3) rfl rfl c67_0
          have f88 : x66.toInt ≠ 4 := i_ne (a := x66.toInt) (b := 4) rfl rfl c67_1
          have f89 : x66.toInt ≠ 5 := i_ne (a := x66.toInt) (b := 5) rfl rfl c67_2
          have f90 : x66.toInt ≠ 6 := i_ne (a := x66.toInt) (b := 6) rfl rfl c67_3
          have f91 : x66.toInt ≠ 7 := i_ne (a := x66.toInt) (b := 7) rfl rfl c67_4
          have f92 : x66.toInt ≠ 8 := i_ne (a := x66.toInt) (b := 8) rfl rfl c67_5
          have f93 : x66.toInt ≠ 9 := i_ne (a := x66.toInt) (b := 9) rfl rfl c67_6
          have f94 : x66.toInt ≠ 10 := i_ne (a := x66.toInt) (b := 10) rfl rfl c67_7
          have f95 : x66.toInt ≠ 11 := i_ne (a := x66.toInt) (b := 11) rfl rfl c67_8
          refine ok_X12_later (by omega) (by omega) (fun r312_0 r312_1 r312_2 r312_3 f96 u312_0 u312_1 u312_2 => ?_)
          exact j_315 v_labels r312_0 r312_1 r312_2 r312_3 (by omega) (by omega) (by omega) (by omega) (by first | exact zN_l u0 u120_0 u120_1 u120_2 (Or.inr (Or.inl (by decide))) rfl (by omega) (by omega) | exact zN_l u0 u130_0 u130_1 u130_2 (Or.inr (Or.inr ⟨by decide, by omega⟩)) rfl (by omega) (by omega) | exact zRo_e u0 hH9 u142_0 (by omega) (by omega) | exact zC_n u0 u173_0 u185_0 u185_1 u185_2 (by omega) (by omega) (by decide) (by decide) (by omega) | exact zC_f u0 u173_0 (by omega) (by omega) | exact u199_0 | exact u209_0 | exact zN_k u0 u226_0 u226_1 u226_2 u236_0 u236_1 u236_2 u250_0 u250_1 u250_2 (by omega) (by decide) (by decide) (by decide) (zg_at2 ex224 (by omega)) (by omega) (zg_at2 ex248 (by omega)) (by omega) (by omega) (by omega) | exact u260_0 | exact zN_t u0 u271_0 u271_1 u271_2 u281_0 u281_1 u281_2 u289_0 u289_1 u289_2 (by omega) (by decide) (by decide) (by decide) rfl (by omega) rfl (by omega) (by omega) (by omega) | exact zN_c u0 u302_0 u302_1 u302_2 (by decide) (by omega) (by omega) (by omega) | exact zN_l u0 u312_0 u312_1 u312_2 (Or.inl ⟨by decide, by omega⟩) rfl (by omega) (by omega))
      · have f97 : l7_21.toInt < x29.toInt := i_nle (a := x29.toInt) (b := l7_21.toInt) rfl rfl c30
        refine ⟨i_in (by omega) (by omega), ?_⟩
        intro g41 eg41
        intro x42 ex42
        have f98 : x42.toInt = l6_21.toInt + 1 := i_add (a := l6_21.toInt) (b := 1) ex42 rfl rfl (by omega) (by omega)
        intro x53 ex53
        have f99 : x53.toInt = x4.toInt + l7_21.toInt := i_add (a := x4.toInt) (b := l7_21.toInt) ex53 rfl rfl (by omega) (by omega)
        refine ⟨i_in (by omega) (by omega), ?_⟩
        intro x54 ex54
        have hs9 := zHl_s (x' := x42.toInt) u0 u21_0 eg41 ex54 (by omega) (by omega) (by omega)
        have f100 : (l7_21.toInt + 1 ≤ x54.toInt ∧ x54.toInt ≤ 220) := by have h9 := hs9.2; have h8 := hs9.1.2.2.2.2; omega
        exact ih_21 x42 x54 g41  (by omega) (by omega) (by omega) (by first | exact hs9.1 | exact zHl_0 u0 rfl (by omega)) (by have h8_0 := i_rng l6_21; have h8_1 := i_rng x42; omega)
  exact ⟨(2147483648 : Int).toNat + 1, j_21   ((2147483648 : Int).toNat + 1) 0 x18 v_held  (by omega) (by omega) (by omega) (by first | exact hs9.1 | exact zHl_0 u0 rfl (by omega)) (by omega)⟩
set_option maxHeartbeats 4000000 in
theorem ok_X12_compile {p1 : Int32} {p2 : Int32} {v_sort : Nat → Int32} {v_value : Nat → Int32} {v_least : Nat → Int32} {v_most : Nat → Int32} {v_end : Nat → Int32} {v_act : Nat → Int32} {v_actA : Nat → Int32} {v_actB : Nat → Int32} {v_labelAt : Nat → Int32} {v_task : Nat → Int32} {v_taskA : Nat → Int32} {v_taskB : Nat → Int32} {v_held : Nat → Int32} {gZ : Int → Int} {gfi : Int} {v_holder : Nat → Int32} {v_parts : Nat → Int32} {v_firstPart : Nat → Int32} {v_partBegin : Nat → Int32} {v_partEnd : Nat → Int32} {v_acts : Int32} {v_labels : Int32} {v_tasks : Int32} {v_many : Nat → Int32} {v_captures : Nat → Int32} {Q : Int32 → Int32 → Int32 → (Nat → Int32) → (Nat → Int32) → (Nat → Int32) → (Nat → Int32) → (Nat → Int32) → (Nat → Int32) → (Nat → Int32) → (Nat → Int32) → Prop} (a0 : 0 ≤ p2.toInt) (a1 : p2.toInt ≤ 1) (a2 : 0 ≤ p1.toInt) (a3 : p1.toInt ≤ 5) (u0 : zSl v_sort v_value v_least v_most v_holder v_parts v_end v_firstPart v_partBegin v_partEnd (220 * p1.toInt) (420 * p1.toInt) (zg v_many p1.toInt) (zg v_captures p1.toInt)) (u1 : zZ v_sort v_least v_most v_end (220 * p1.toInt) (zg v_many p1.toInt) gfi gZ) (u2 : gZ 0 ≤ 220) (u3 : (gfi = 1 ∧ p2.toInt ≠ 0) ∨ (gfi = 0 ∧ p2.toInt = 0)) (u4 : gfi = 1 → zKb v_sort (220 * p1.toInt) (zg v_many p1.toInt) ∧ gZ 0 ≤ 200) (hq : ∀ (ov_acts : Int32) (ov_labels : Int32) (ov_tasks : Int32) (ov_act : Nat → Int32) (ov_actA : Nat → Int32) (ov_actB : Nat → Int32) (ov_labelAt : Nat → Int32) (ov_task : Nat → Int32) (ov_taskA : Nat → Int32) (ov_taskB : Nat → Int32) (ov_held : Nat → Int32), 0 ≤ ov_acts.toInt + 1 → 0 ≤ ov_acts.toInt → 0 ≤ ov_labels.toInt + 1 → 0 ≤ ov_labels.toInt → 0 ≤ ov_tasks.toInt + 1 → 0 ≤ ov_tasks.toInt → ov_acts.toInt ≤ 2700 → ov_tasks.toInt ≤ 0 → (zCo v_sort v_value ov_act ov_actA ov_actB ov_labelAt (220 * p1.toInt) (zg v_many p1.toInt) gfi ov_acts.toInt) → Q ov_acts ov_labels ov_tasks ov_act ov_actA ov_actB ov_labelAt ov_task ov_taskA ov_taskB ov_held) : w_X12_compile p1 p2 v_sort v_value v_least v_most v_end v_act v_actA v_actB v_labelAt v_task v_taskA v_taskB v_held Q := by
  have q_t : (bz true).toInt = 1 := rfl
  have q_f : (bz false).toInt = 0 := rfl
  have q_0 : (0 : Int32).toInt = 0 := rfl
  have q_19 : (19 : Int32).toInt = 19 := rfl
  have q_100 : (100 : Int32).toInt = 100 := rfl
  unfold w_X12_compile
  refine ok_X12_later (by omega) (by omega) (fun r20_0 r20_1 r20_2 r20_3 f1 u20_0 u20_1 u20_2 => ?_)
  refine ok_X12_later (by omega) (by omega) (fun r28_0 r28_1 r28_2 r28_3 f2 u28_0 u28_1 u28_2 => ?_)
  have j_31 : ∀ n_31 : Nat, ∀ (v_acts_31 : Int32) (v_labels_31 : Int32) (v_tasks_31 : Int32) (v_act_31 : Nat → Int32) (v_actA_31 : Nat → Int32) (v_actB_31 : Nat → Int32) (v_labelAt_31 : Nat → Int32) (v_task_31 : Nat → Int32) (v_taskA_31 : Nat → Int32) (v_taskB_31 : Nat → Int32) (v_held_31 : Nat → Int32) (gm_31 : Int), 0 ≤ v_tasks_31.toInt → 0 ≤ v_acts_31.toInt → 0 ≤ v_labels_31.toInt → v_acts_31.toInt ≤ 2700 → (zCS v_sort v_value v_end v_act_31 v_actA_31 v_actB_31 v_labelAt_31 v_task_31 v_taskA_31 v_taskB_31 gZ (220 * p1.toInt) (zg v_many p1.toInt) gfi v_acts_31.toInt v_labels_31.toInt v_tasks_31.toInt gm_31) → (gm_31).toNat < n_31 → w_X12_compile_31 p1 p2 v_sort v_value v_least v_most v_end Q n_31 v_acts_31 v_labels_31 v_tasks_31 v_act_31 v_actA_31 v_actB_31 v_labelAt_31 v_task_31 v_taskA_31 v_taskB_31 v_held_31 := by
    intro n_31
    induction n_31 with
    | zero =>
      intro v_acts_31 v_labels_31 v_tasks_31 v_act_31 v_actA_31 v_actB_31 v_labelAt_31 v_task_31 v_taskA_31 v_taskB_31 v_held_31 gm_31 f3 f4 f5 f6 u31_0 hm_31
      exfalso; omega
    | succ n_31 ih_31 =>
      intro v_acts_31 v_labels_31 v_tasks_31 v_act_31 v_actA_31 v_actB_31 v_labelAt_31 v_task_31 v_taskA_31 v_taskB_31 v_held_31 gm_31 f3 f4 f5 f6 u31_0 hm_31
      unfold w_X12_compile_31
      unfold w_X12_compile_31B
      refine ⟨fun c35 => ?_, fun c35 => ?_⟩
      · have f7 : v_tasks_31.toInt ≤ 0 := i_le (a := v_tasks_31.toInt) (b := 0) rfl rfl c35
        exact hq v_acts_31 v_labels_31 v_tasks_31 v_act_31 v_actA_31 v_actB_31 v_labelAt_31 v_task_31 v_taskA_31 v_taskB_31 v_held_31 (by omega) (by omega) (by omega) (by omega) (by omega) (by omega) (by omega) (by omega) (by exact zCS_e u31_0 (by omega))
      · have f8 : 0 < v_tasks_31.toInt := i_nle (a := v_tasks_31.toInt) (b := 0) rfl rfl c35
        have hb9 := zCS_b u31_0 u0 u1 (by omega)
        obtain ⟨hb1, hb2, hb3, hb4, hb5⟩ := hb9
        have f9 : (0 ≤ v_acts_31.toInt ∧ v_acts_31.toInt ≤ 2650) := by omega
        have f10 : (0 ≤ v_labels_31.toInt ∧ v_labels_31.toInt ≤ 2650) := by omega
        have f11 : v_tasks_31.toInt ≤ 2650 := by omega
        intro x44 ex44
        have f12 : x44.toInt = v_tasks_31.toInt - 1 := i_sub (a := v_tasks_31.toInt) (b := 1) ex44 rfl rfl (by omega) (by omega)
        refine ⟨i_in (by omega) (by omega), ?_⟩
        intro x56 ex56
        have h56 := zg_at2 (k := v_tasks_31.toInt - 1) ex56 (by omega)
        refine ⟨i_in (by omega) (by omega), ?_⟩
        intro x66 ex66
        have h66 := zg_at2 (k := v_tasks_31.toInt - 1) ex66 (by omega)
        have j_155 : ∀ (v_acts_155 : Int32) (v_labels_155 : Int32) (v_tasks_155 : Int32) (v_act_155 : Nat → Int32) (v_actA_155 : Nat → Int32) (v_actB_155 : Nat → Int32) (v_labelAt_155 : Nat → Int32) (v_task_155 : Nat → Int32) (v_taskA_155 : Nat → Int32) (v_taskB_155 : Nat → Int32) (v_held_155 : Nat → Int32), v_acts_31.toInt ≤ v_acts_155.toInt → v_acts_155.toInt ≤ v_acts_31.toInt + 1 → v_labels_31.toInt ≤ v_labels_155.toInt → v_tasks_31.toInt ≤ v_tasks_155.toInt + 1 → v_labels_155.toInt ≤ 2999 → v_tasks_155.toInt ≤ 5999 → (zCS v_sort v_value v_end v_act_155 v_actA_155 v_actB_155 v_labelAt_155 v_task_155 v_taskA_155 v_taskB_155 gZ (220 * p1.toInt) (zg v_many p1.toInt) gfi v_acts_155.toInt v_labels_155.toInt v_tasks_155.toInt (gm_31 - 1)) → w_X12_compile_155 Q (w_X12_compile_31 p1 p2 v_sort v_value v_least v_most v_end Q n_31) v_acts_155 v_labels_155 v_tasks_155 v_act_155 v_actA_155 v_actB_155 v_labelAt_155 v_task_155 v_taskA_155 v_taskB_155 v_held_155 := by
          intro v_acts_155 v_labels_155 v_tasks_155 v_act_155 v_actA_155 v_actB_155 v_labelAt_155 v_task_155 v_taskA_155 v_taskB_155 v_held_155 f13 f14 f15 f16 f17 f18 u155_0
          unfold w_X12_compile_155
          exact ih_31 v_acts_155 v_labels_155 v_tasks_155 v_act_155 v_actA_155 v_actB_155 v_labelAt_155 v_task_155 v_taskA_155 v_taskB_155 v_held_155 (gm_31 - 1) (by omega) (by omega) (by omega) (by omega) (by first | exact u155_0 | exact zCS_0 u0 u1 u20_0 u20_1 u20_2 u28_0 u28_1 u28_2 (by decide) (by decide) (by decide) (by decide) (by omega) (by omega) (by omega) rfl rfl u2 (fun z => (u4 z).2) rfl) (by omega)
        refine ⟨fun c72 => ?_, fun c72 => ?_⟩
        · have f19 : x56.toInt ≠ 100 := i_ne (a := x56.toInt) (b := 100) rfl rfl c72
          refine ⟨fun c89 => ?_, fun c89 => ?_⟩
          · have f20 : x56.toInt ≠ 101 := i_ne (a := x56.toInt) (b := 101) rfl rfl c89
            refine ⟨i_in (by omega) (by omega), ?_⟩
            intro g115 eg115
            refine ⟨i_in (by omega) (by omega), ?_⟩
            intro g126 eg126
            refine ⟨i_in (by omega) (by omega), ?_⟩
            intro x143 ex143
            have h143 := zg_at2 (k := v_tasks_31.toInt - 1) ex143 (by omega)
            refine ⟨i_in (by omega) (by omega), ?_⟩
            intro g144 eg144
            intro x151 ex151
            have f21 : x151.toInt = v_acts_31.toInt + 1 := i_add (a := v_acts_31.toInt) (b := 1) ex151 rfl rfl (by omega) (by omega)
            exact j_155 x151 v_labels_31 x44 g115 g126 g144 v_labelAt_31 v_task_31 v_taskA_31 v_taskB_31 v_held_31 (by omega) (by omega) (by omega) (by omega) (by omega) (by omega) (by first | exact zCS_w u80_0 hB1 hB2 u31_0.2.1 u31_0.2.2 rfl | exact zCS_l u31_0 u0 u1 eg102 (by omega) (by omega) h66 rfl (by omega) rfl | exact zCS_o u31_0 u0 u1 eg115 eg126 eg144 (by omega) (by omega) (by omega) (by omega) rfl h56 h66 h143 (by omega) (by omega) rfl)
          · have f22 : x56.toInt = 101 := i_eq (a := x56.toInt) (b := 101) rfl rfl c89
            have f23 : (0 ≤ x66.toInt ∧ x66.toInt ≤ 2999) := by have h9 := hb5 (by omega); omega
            refine ⟨i_in (by omega) (by omega), ?_⟩
            intro g102 eg102
            exact j_155 v_acts_31 v_labels_31 x44 v_act_31 v_actA_31 v_actB_31 g102 v_task_31 v_taskA_31 v_taskB_31 v_held_31 (by omega) (by omega) (by omega) (by omega) (by omega) (by omega) (by first | exact zCS_w u80_0 hB1 hB2 u31_0.2.1 u31_0.2.2 rfl | exact zCS_l u31_0 u0 u1 eg102 (by omega) (by omega) h66 rfl (by omega) rfl | exact zCS_o u31_0 u0 u1 eg115 eg126 eg144 (by omega) (by omega) (by omega) (by omega) rfl h56 h66 h143 (by omega) (by omega) rfl)
        · have f24 : x56.toInt = 100 := i_eq (a := x56.toInt) (b := 100) rfl rfl c72
          obtain ⟨C9, L9, s9, s08, t9, B19, B29, hND, hB1, hB2⟩ := zCS_n (k := x66.toInt) (m' := x44.toInt) u31_0 u0 u1 ⟨(by omega), fun z => (u4 z).1⟩ (by omega) (by omega) h66 (by omega)
          have f25 : (0 ≤ x66.toInt ∧ x66.toInt ≤ 219) := by have h9 := hND.2.2.2.2.1.1; have h8 := (zS_n u0).2; omega
          refine ok_X12_compileNode (gZ := gZ) (gC := C9) (gL := L9) (gsi := s9) (gs0 := s08) (gta := t9) (gbs := (220 * p1.toInt)) (gq9 := (420 * p1.toInt)) (gn9 := (zg v_many p1.toInt)) (gc9 := (zg v_captures p1.toInt)) (gfi := gfi) (gB1 := B19) (gB2 := B29) (v_holder := v_holder) (v_parts := v_parts) (v_firstPart := v_firstPart) (v_partBegin := v_partBegin) (v_partEnd := v_partEnd) (v_act := v_act_31) (v_actA := v_actA_31) (v_actB := v_actB_31) (v_labelAt := v_labelAt_31) (v_acts := v_acts_31) (by omega) (by omega) (by omega) (by omega) (by omega) (by omega) (by omega) (by omega) (by omega) (by omega) (by exact hND) (by exact rfl) (by exact u3) (fun r80_0 r80_1 r80_2 r80_3 r80_4 r80_5 f26 f27 f28 f29 u80_0 => ?_)
          exact j_155 v_acts_31 r80_0 r80_1 v_act_31 v_actA_31 v_actB_31 v_labelAt_31 r80_2 r80_3 r80_4 r80_5 (by omega) (by omega) (by omega) (by omega) (by omega) (by omega) (by first | exact zCS_w u80_0 hB1 hB2 u31_0.2.1 u31_0.2.2 rfl | exact zCS_l u31_0 u0 u1 eg102 (by omega) (by omega) h66 rfl (by omega) rfl | exact zCS_o u31_0 u0 u1 eg115 eg126 eg144 (by omega) (by omega) (by omega) (by omega) rfl h56 h66 h143 (by omega) (by omega) rfl)
  exact ⟨(((12 * gZ 0 - 3))).toNat + 1, j_31   ((((12 * gZ 0 - 3))).toNat + 1) 0 0 r28_0 v_act v_actA v_actB v_labelAt r28_1 r28_2 r28_3 v_held ((12 * gZ 0 - 3)) (by omega) (by omega) (by omega) (by omega) (by first | exact u155_0 | exact zCS_0 u0 u1 u20_0 u20_1 u20_2 u28_0 u28_1 u28_2 (by decide) (by decide) (by decide) (by decide) (by omega) (by omega) (by omega) rfl rfl u2 (fun z => (u4 z).2) rfl) (by omega)⟩
set_option maxHeartbeats 4000000 in
theorem ok_X12_searched {p1 : Int32} {p2 : Int32} {p3 : Int32} {p4 : Int32} {p5 : Int32} {p6 : Int32} {v_trail : Int32} {v_choices : Int32} {v_now : Int32} {v_spot : Int32} {v_limit : Int32} {v_isOver : Bool} {v_stamp : Int32} {v_sort : Nat → Int32} {v_value : Nat → Int32} {v_least : Nat → Int32} {v_most : Nat → Int32} {v_parts : Nat → Int32} {v_firstPart : Nat → Int32} {v_inCase : Nat → Bool} {v_partBegin : Nat → Int32} {v_partEnd : Nat → Int32} {v_long0 : Nat → Int32} {v_signs : Nat → Int32} {v_act : Nat → Int32} {v_actA : Nat → Int32} {v_actB : Nat → Int32} {v_labelAt : Nat → Int32} {v_reg : Nat → Int32} {v_trailOf : Nat → Int32} {v_trailOld : Nat → Int32} {v_choiceSort : Nat → Int32} {v_choiceAct : Nat → Int32} {v_choicePlace : Nat → Int32} {v_choiceTrail : Nat → Int32} {v_seen : Nat → Int32} {v_found : Nat → Int32} {gfi : Int} {gN : Int} {v_holder : Nat → Int32} {v_end : Nat → Int32} {v_many : Nat → Int32} {v_captures : Nat → Int32} {v_steps : Int32} {Q : Int32 → Int32 → Int32 → Int32 → Int32 → Int32 → Int32 → Int32 → Int32 → Int32 → Bool → Int32 → (Nat → Int32) → (Nat → Int32) → (Nat → Int32) → (Nat → Int32) → (Nat → Int32) → (Nat → Int32) → (Nat → Int32) → (Nat → Int32) → (Nat → Int32) → Prop} (a0 : 0 ≤ p4.toInt) (a1 : p4.toInt ≤ 1) (a2 : 0 ≤ p5.toInt) (a3 : p5.toInt ≤ 1) (a4 : 0 ≤ p1.toInt) (a5 : p1.toInt ≤ 5) (a6 : 0 ≤ p2.toInt) (a7 : p2.toInt ≤ 3) (a8 : 0 ≤ p3.toInt) (a9 : 0 ≤ p6.toInt) (a10 : p6.toInt ≤ 3000) (b0 : rp (fun k v => 0 ≤ v ∧ v ≤ 100) v_long0 0 4) (b1 : rp (fun k v => 0 ≤ v ∧ v ≤ 65535) v_signs 0 400) (b2 : rp (fun k v => 0 ≤ v ∧ v ≤ 1129) v_trailOf 0 v_trail.toInt) (u0 : zCo v_sort v_value v_act v_actA v_actB v_labelAt (220 * p1.toInt) (zg v_many p1.toInt) gfi gN) (u1 : zSl v_sort v_value v_least v_most v_holder v_parts v_end v_firstPart v_partBegin v_partEnd (220 * p1.toInt) (420 * p1.toInt) (zg v_many p1.toInt) (zg v_captures p1.toInt)) (u2 : (gfi = 1 ∧ p5.toInt ≠ 0) ∨ (gfi = 0 ∧ p5.toInt = 0)) (u3 : p3.toInt ≤ zg v_long0 p2.toInt) (hq : ∀ (r : Int32) (ov_trail : Int32) (ov_choices : Int32) (ov_now : Int32) (ov_spot : Int32) (ov_slotNow : Int32) (ov_textNow : Int32) (ov_longNow : Int32) (ov_steps : Int32) (ov_limit : Int32) (ov_isOver : Bool) (ov_stamp : Int32) (ov_reg : Nat → Int32) (ov_trailOf : Nat → Int32) (ov_trailOld : Nat → Int32) (ov_choiceSort : Nat → Int32) (ov_choiceAct : Nat → Int32) (ov_choicePlace : Nat → Int32) (ov_choiceTrail : Nat → Int32) (ov_seen : Nat → Int32) (ov_found : Nat → Int32), ov_slotNow.toInt = 220 * p1.toInt → ov_textNow.toInt = 100 * p2.toInt → 0 ≤ ov_longNow.toInt → ov_longNow.toInt ≤ 100 → p3.toInt ≤ ov_longNow.toInt → p6.toInt ≤ ov_limit.toInt → ((ov_limit.toInt = p6.toInt ∧ p5.toInt = 0) ∨ (ov_limit.toInt = 2147483647)) → 0 ≤ r.toInt + 1 → 0 ≤ r.toInt → ((r.toInt ≠ 0) ∨ ((bz ov_isOver).toInt = 0)) → r.toInt ≤ 2 → 0 ≤ ov_steps.toInt → ov_steps.toInt ≤ 262144 → ov_steps.toInt ≤ 200010 → rp (fun k v => 0 ≤ v ∧ v ≤ 1129) ov_trailOf 0 ov_trail.toInt → rp (fun k v => 0 ≤ v ∧ v ≤ 1129) ov_trailOf r.toInt ov_trail.toInt → (r.toInt = 1 → zFo ov_found p3.toInt (zg v_long0 p2.toInt) 10) → Q r ov_trail ov_choices ov_now ov_spot ov_slotNow ov_textNow ov_longNow ov_steps ov_limit ov_isOver ov_stamp ov_reg ov_trailOf ov_trailOld ov_choiceSort ov_choiceAct ov_choicePlace ov_choiceTrail ov_seen ov_found) : w_X12_searched p1 p2 p3 p4 p5 p6 v_trail v_choices v_now v_spot v_limit v_isOver v_stamp v_sort v_value v_least v_most v_parts v_firstPart v_inCase v_partBegin v_partEnd v_long0 v_signs v_act v_actA v_actB v_labelAt v_reg v_trailOf v_trailOld v_choiceSort v_choiceAct v_choicePlace v_choiceTrail v_seen v_found Q := by
  have q_t : (bz true).toInt = 1 := rfl
  have q_f : (bz false).toInt = 0 := rfl
  have q_0 : (0 : Int32).toInt = 0 := rfl
  have q_2147483647 : (2147483647 : Int32).toInt = 2147483647 := rfl
  unfold w_X12_searched
  have hCo := u0
  obtain ⟨C9, hPr, hPq, hWt⟩ := hCo
  obtain ⟨G9, hG9⟩ := zG_ex hPr
  have hW9 := zCo_w hPr hWt
  intro x5 ex5
  have f1 : x5.toInt = 220 * p1.toInt := i_mul (a := 220) (b := p1.toInt) ex5 rfl rfl (by omega) (by omega)
  intro x13 ex13
  have f2 : x13.toInt = 100 * p2.toInt := i_mul (a := 100) (b := p2.toInt) ex13 rfl rfl (by omega) (by omega)
  refine ⟨i_in (by omega) (by omega), ?_⟩
  intro x23 ex23
  have f3 : 0 ≤ x23.toInt ∧ x23.toInt ≤ 100 := by have h9 := rp_get (P := (fun k v => 0 ≤ v ∧ v ≤ 100)) (a := p2.toInt) b0 ex23 rfl (by omega) (by omega) (by omega); omega
  have h23 := zg_at ex23
  have f4 : p3.toInt ≤ x23.toInt := by omega
  have j_46 : ∀ (s0_46 : Int32), p6.toInt ≤ s0_46.toInt → ((s0_46.toInt = p6.toInt ∧ p5.toInt = 0) ∨ (s0_46.toInt = 2147483647)) → (p5.toInt = 0 → s0_46.toInt ≤ 3000) → w_X12_searched_46 p3 p4 p5 v_sort v_value v_least v_most v_parts v_firstPart v_inCase v_partBegin v_partEnd v_signs v_act v_actA v_actB v_labelAt Q s0_46 v_trail v_choices v_now v_spot x5 x13 x23 0 v_limit v_isOver v_stamp v_reg v_trailOf v_trailOld v_choiceSort v_choiceAct v_choicePlace v_choiceTrail v_seen v_found := by
    intro s0_46 f5 f6 u46_0
    unfold w_X12_searched_46
    intro x60 ex60
    have j_70 : ∀ n_70 : Nat, ∀ (l7_70 : Int32) (l8_70 : Int32) (v_trail_70 : Int32) (v_choices_70 : Int32) (v_now_70 : Int32) (v_spot_70 : Int32) (v_steps_70 : Int32) (v_isOver_70 : Bool) (v_reg_70 : Nat → Int32) (v_trailOf_70 : Nat → Int32) (v_trailOld_70 : Nat → Int32) (v_choiceSort_70 : Nat → Int32) (v_choiceAct_70 : Nat → Int32) (v_choicePlace_70 : Nat → Int32) (v_choiceTrail_70 : Nat → Int32) (v_seen_70 : Nat → Int32), l8_70.toInt ≤ x23.toInt + 1 → ((l7_70.toInt ≠ 0) ∨ ((bz v_isOver_70).toInt = 0)) → 0 ≤ v_steps_70.toInt → v_steps_70.toInt ≤ 200010 → v_steps_70.toInt ≤ s0_46.toInt → 0 ≤ l7_70.toInt → l7_70.toInt ≤ 2 → p3.toInt ≤ l8_70.toInt → rp (fun k v => 0 ≤ v ∧ v ≤ 1129) v_trailOf_70 0 v_trail_70.toInt → rp (fun k v => 0 ≤ v ∧ v ≤ 1129) v_trailOf_70 l7_70.toInt v_trail_70.toInt → rp (fun k v => 0 ≤ v ∧ v ≤ 1129) v_trailOf_70 v_steps_70.toInt v_trail_70.toInt → (l7_70.toInt = 0 → (gfi = 1 → v_steps_70.toInt + 2 * zus v_act v_seen_70 x60.toInt gN ≤ 2 * 80598)) → (l7_70.toInt = 1 → zCap (zG v_reg_70) x23.toInt ∧ l8_70.toInt - 1 ≤ v_spot_70.toInt ∧ v_spot_70.toInt ≤ x23.toInt ∧ p3.toInt ≤ l8_70.toInt - 1) → ((-1) * l8_70.toInt + 2147483648).toNat < n_70 → w_X12_searched_70 p3 p4 p5 v_sort v_value v_least v_most v_parts v_firstPart v_inCase v_partBegin v_partEnd v_signs v_act v_actA v_actB v_labelAt Q x5 x13 x23 s0_46 x60 v_found n_70 l7_70 l8_70 v_trail_70 v_choices_70 v_now_70 v_spot_70 v_steps_70 v_isOver_70 v_reg_70 v_trailOf_70 v_trailOld_70 v_choiceSort_70 v_choiceAct_70 v_choicePlace_70 v_choiceTrail_70 v_seen_70 := by
      intro n_70
      induction n_70 with
      | zero =>
        intro l7_70 l8_70 v_trail_70 v_choices_70 v_now_70 v_spot_70 v_steps_70 v_isOver_70 v_reg_70 v_trailOf_70 v_trailOld_70 v_choiceSort_70 v_choiceAct_70 v_choicePlace_70 v_choiceTrail_70 v_seen_70 f7 f8 f9 f10 f11 f12 f13 f14 h15 h16 h17 u70_0 u70_1 hm_70
        exfalso; omega
      | succ n_70 ih_70 =>
        intro l7_70 l8_70 v_trail_70 v_choices_70 v_now_70 v_spot_70 v_steps_70 v_isOver_70 v_reg_70 v_trailOf_70 v_trailOld_70 v_choiceSort_70 v_choiceAct_70 v_choicePlace_70 v_choiceTrail_70 v_seen_70 f7 f8 f9 f10 f11 f12 f13 f14 h15 h16 h17 u70_0 u70_1 hm_70
        unfold w_X12_searched_70
        unfold w_X12_searched_70B
        have j_111 : w_X12_searched_111 p5 Q l7_70 l8_70 v_trail_70 v_choices_70 v_now_70 v_spot_70 x5 x13 x23 v_steps_70 s0_46 v_isOver_70 x60 v_reg_70 v_trailOf_70 v_trailOld_70 v_choiceSort_70 v_choiceAct_70 v_choicePlace_70 v_choiceTrail_70 v_seen_70 v_found := by
          unfold w_X12_searched_111
          have j_196 : ∀ (v_found_196 : Nat → Int32), (l7_70.toInt = 1 → zFo v_found_196 p3.toInt (zg v_long0 p2.toInt) 10) → w_X12_searched_196 p5 Q l7_70 v_trail_70 v_choices_70 v_now_70 v_spot_70 x5 x13 x23 v_steps_70 s0_46 v_isOver_70 x60 v_reg_70 v_trailOf_70 v_trailOld_70 v_choiceSort_70 v_choiceAct_70 v_choicePlace_70 v_choiceTrail_70 v_seen_70 v_found_196 := by
            intro v_found_196 u196_0
            unfold w_X12_searched_196
            have j_210 : ∀ (s0_210 : Int32), 0 ≤ s0_210.toInt → ((s0_210.toInt = v_steps_70.toInt ∧ p5.toInt = 0) ∨ (s0_210.toInt = 0)) → w_X12_searched_210 Q s0_210 l7_70 v_trail_70 v_choices_70 v_now_70 v_spot_70 x5 x13 x23 v_steps_70 s0_46 v_isOver_70 x60 v_reg_70 v_trailOf_70 v_trailOld_70 v_choiceSort_70 v_choiceAct_70 v_choicePlace_70 v_choiceTrail_70 v_seen_70 v_found_196 := by
              intro s0_210 f18 f19
              unfold w_X12_searched_210
              exact hq l7_70 v_trail_70 v_choices_70 v_now_70 v_spot_70 x5 x13 x23 s0_210 s0_46 v_isOver_70 x60 v_reg_70 v_trailOf_70 v_trailOld_70 v_choiceSort_70 v_choiceAct_70 v_choicePlace_70 v_choiceTrail_70 v_seen_70 v_found_196 (by omega) (by omega) (by omega) (by omega) (by omega) (by omega) (by omega) (by omega) (by omega) (by omega) (by omega) (by omega) (by omega) (by omega) (rp_mono h15 (by omega) (by omega)) (rp_mono h16 (by omega) (by omega)) (by exact u196_0)
            refine ⟨fun c199 => ?_, fun c199 => ?_⟩
            · have f20 : p5.toInt = 0 := i_eq (a := p5.toInt) (b := 0) rfl rfl c199
              exact j_210 v_steps_70 (by omega) (by omega)
            · have f21 : p5.toInt ≠ 0 := i_ne (a := p5.toInt) (b := 0) rfl rfl c199
              exact j_210 0 (by omega) (by omega)
          refine ⟨fun c114 => ?_, fun c114 => ?_⟩
          · have f22 : l7_70.toInt ≠ 1 := i_ne (a := l7_70.toInt) (b := 1) rfl rfl c114
            exact j_196 v_found (by first | exact fun z => absurd z (by omega) | exact fun _ => (by rw [← h23, show (10 : Int) = l9_120.toInt by omega]; exact u120_0))
          · have f23 : l7_70.toInt = 1 := i_eq (a := l7_70.toInt) (b := 1) rfl rfl c114
            have j_120 : ∀ n_120 : Nat, ∀ (l9_120 : Int32) (v_found_120 : Nat → Int32), 0 ≤ l9_120.toInt → l9_120.toInt ≤ 10 → (zFo v_found_120 p3.toInt x23.toInt l9_120.toInt) → ((-1) * l9_120.toInt + 10).toNat < n_120 → w_X12_searched_120 p5 Q l7_70 l8_70 v_trail_70 v_choices_70 v_now_70 v_spot_70 x5 x13 x23 v_steps_70 s0_46 v_isOver_70 x60 v_reg_70 v_trailOf_70 v_trailOld_70 v_choiceSort_70 v_choiceAct_70 v_choicePlace_70 v_choiceTrail_70 v_seen_70 n_120 l9_120 v_found_120 := by
              intro n_120
              induction n_120 with
              | zero =>
                intro l9_120 v_found_120 f24 f25 u120_0 hm_120
                exfalso; omega
              | succ n_120 ih_120 =>
                intro l9_120 v_found_120 f24 f25 u120_0 hm_120
                unfold w_X12_searched_120
                unfold w_X12_searched_120B
                refine ⟨fun c124 => ?_, fun c124 => ?_⟩
                · have f26 : 10 ≤ l9_120.toInt := i_le (a := 10) (b := l9_120.toInt) rfl rfl c124
                  exact j_196 v_found_120 (by first | exact fun z => absurd z (by omega) | exact fun _ => (by rw [← h23, show (10 : Int) = l9_120.toInt by omega]; exact u120_0))
                · have f27 : l9_120.toInt < 10 := i_nle (a := 10) (b := l9_120.toInt) rfl rfl c124
                  intro x134 ex134
                  have f28 : x134.toInt = 2 * l9_120.toInt := i_mul (a := 2) (b := l9_120.toInt) ex134 rfl rfl (by omega) (by omega)
                  have j_156 : ∀ (s0_156 : Int32), ((l9_120.toInt = 0 ∧ s0_156.toInt = l8_70.toInt - 1) ∨ (1 ≤ l9_120.toInt ∧ s0_156.toInt = zg v_reg_70 l9_120.toInt)) → w_X12_searched_156 v_spot_70 v_reg_70 Q (w_X12_searched_120 p5 Q l7_70 l8_70 v_trail_70 v_choices_70 v_now_70 v_spot_70 x5 x13 x23 v_steps_70 s0_46 v_isOver_70 x60 v_reg_70 v_trailOf_70 v_trailOld_70 v_choiceSort_70 v_choiceAct_70 v_choicePlace_70 v_choiceTrail_70 v_seen_70 n_120) s0_156 x134 l9_120 v_found_120 := by
                    intro s0_156 u156_0
                    unfold w_X12_searched_156
                    refine ⟨i_in (by omega) (by omega), ?_⟩
                    intro g156 eg156
                    intro x164 ex164
                    have f29 : x164.toInt = 2 * l9_120.toInt := i_mul (a := 2) (b := l9_120.toInt) ex164 rfl rfl (by omega) (by omega)
                    intro x166 ex166
                    have f30 : x166.toInt = x164.toInt + 1 := i_add (a := x164.toInt) (b := 1) ex166 rfl rfl (by omega) (by omega)
                    have j_189 : ∀ (s0_189 : Int32), ((l9_120.toInt = 0 ∧ s0_189.toInt = v_spot_70.toInt) ∨ (1 ≤ l9_120.toInt ∧ s0_189.toInt = zg v_reg_70 (10 + l9_120.toInt))) → w_X12_searched_189 Q (w_X12_searched_120 p5 Q l7_70 l8_70 v_trail_70 v_choices_70 v_now_70 v_spot_70 x5 x13 x23 v_steps_70 s0_46 v_isOver_70 x60 v_reg_70 v_trailOf_70 v_trailOld_70 v_choiceSort_70 v_choiceAct_70 v_choicePlace_70 v_choiceTrail_70 v_seen_70 n_120) s0_189 x166 l9_120 g156 := by
                      intro s0_189 u189_0
                      unfold w_X12_searched_189
                      refine ⟨i_in (by omega) (by omega), ?_⟩
                      intro g189 eg189
                      have hx9 := zFo_x (u70_1 (by omega)) u156_0 u189_0 (by omega) (by omega) (by omega)
                      intro x190 ex190
                      have f31 : x190.toInt = l9_120.toInt + 1 := i_add (a := l9_120.toInt) (b := 1) ex190 rfl rfl (by omega) (by omega)
                      exact ih_120 x190 g189  (by omega) (by omega) (by first | exact zFo_0 | exact zFo_s u120_0 eg156 eg189 (by omega) (by omega) (by omega) hx9.1 hx9.2 (by omega)) (by have h8_0 := i_rng l9_120; have h8_1 := i_rng x190; omega)
                    refine ⟨fun c169 => ?_, fun c169 => ?_⟩
                    · have f32 : l9_120.toInt ≠ 0 := i_ne (a := l9_120.toInt) (b := 0) rfl rfl c169
                      intro x187 ex187
                      have f33 : x187.toInt = 10 + l9_120.toInt := i_add (a := 10) (b := l9_120.toInt) ex187 rfl rfl (by omega) (by omega)
                      refine ⟨i_in (by omega) (by omega), ?_⟩
                      intro x188 ex188
                      have h188 := zg_at2 (k := 10 + l9_120.toInt) ex188 (by omega)
                      exact j_189 x188 (by first | exact Or.inl ⟨by omega, rfl⟩ | exact Or.inr ⟨by omega, h188⟩)
                    · have f34 : l9_120.toInt = 0 := i_eq (a := l9_120.toInt) (b := 0) rfl rfl c169
                      exact j_189 v_spot_70 (by first | exact Or.inl ⟨by omega, rfl⟩ | exact Or.inr ⟨by omega, h188⟩)
                  refine ⟨fun c137 => ?_, fun c137 => ?_⟩
                  · have f35 : l9_120.toInt ≠ 0 := i_ne (a := l9_120.toInt) (b := 0) rfl rfl c137
                    intro x154 ex154
                    have f36 : x154.toInt = 0 + l9_120.toInt := i_add (a := 0) (b := l9_120.toInt) ex154 rfl rfl (by omega) (by omega)
                    refine ⟨i_in (by omega) (by omega), ?_⟩
                    intro x155 ex155
                    have h155 := zg_at2 (k := l9_120.toInt) ex155 (by omega)
                    exact j_156 x155 (by first | exact Or.inl ⟨by omega, by omega⟩ | exact Or.inr ⟨by omega, h155⟩)
                  · have f37 : l9_120.toInt = 0 := i_eq (a := l9_120.toInt) (b := 0) rfl rfl c137
                    intro x143 ex143
                    have f38 : x143.toInt = l8_70.toInt - 1 := i_sub (a := l8_70.toInt) (b := 1) ex143 rfl rfl (by omega) (by omega)
                    exact j_156 x143 (by first | exact Or.inl ⟨by omega, by omega⟩ | exact Or.inr ⟨by omega, h155⟩)
            exact ⟨(10 : Int).toNat + 1, j_120   ((10 : Int).toNat + 1) 0 v_found  (by omega) (by omega) (by first | exact zFo_0 | exact zFo_s u120_0 eg156 eg189 (by omega) (by omega) (by omega) hx9.1 hx9.2 (by omega)) (by omega)⟩
        refine ⟨fun c72 => ?_, fun c72 => ?_⟩
        · have f39 : l7_70.toInt ≠ 0 := i_ne (a := l7_70.toInt) (b := 0) rfl rfl c72
          exact j_111  
        · have f40 : l7_70.toInt = 0 := i_eq (a := l7_70.toInt) (b := 0) rfl rfl c72
          have j_90 : ∀ (s0_90 : Int32), p3.toInt ≤ s0_90.toInt → s0_90.toInt ≤ x23.toInt → ((s0_90.toInt = x23.toInt ∧ p4.toInt = 0) ∨ (s0_90.toInt = p3.toInt)) → w_X12_searched_90 p4 p5 v_sort v_value v_least v_most v_parts v_firstPart v_inCase v_partBegin v_partEnd v_signs v_act v_actA v_actB v_labelAt x5 x13 x23 s0_46 x60 v_found Q (w_X12_searched_70 p3 p4 p5 v_sort v_value v_least v_most v_parts v_firstPart v_inCase v_partBegin v_partEnd v_signs v_act v_actA v_actB v_labelAt Q x5 x13 x23 s0_46 x60 v_found n_70) s0_90 l8_70 l7_70 l8_70 v_trail_70 v_choices_70 v_now_70 v_spot_70 v_steps_70 v_isOver_70 v_reg_70 v_trailOf_70 v_trailOld_70 v_choiceSort_70 v_choiceAct_70 v_choicePlace_70 v_choiceTrail_70 v_seen_70 := by
            intro s0_90 f41 f42 f43
            unfold w_X12_searched_90
            refine ⟨fun c90 => ?_, fun c90 => ?_⟩
            · have f44 : s0_90.toInt < l8_70.toInt := i_lt (a := s0_90.toInt) (b := l8_70.toInt) rfl rfl c90
              exact j_111  
            · have f45 : l8_70.toInt ≤ s0_90.toInt := i_nlt (a := s0_90.toInt) (b := l8_70.toInt) rfl rfl c90
              have f46 : v_steps_70.toInt ≤ 200000 := by have h9 := u70_0 (by omega); have h8 := @zus_0 v_act v_seen_70 x60.toInt gN; have h7 := u46_0; omega
              refine ok_X12_tried (gfi := gfi) (gC := C9) (gN := gN) (gg := G9) (gbs := (220 * p1.toInt)) (gn9 := (zg v_many p1.toInt)) (v_holder := v_holder) (v_end := v_end) (gq9 := (420 * p1.toInt)) (gc9 := (zg v_captures p1.toInt)) (gK := 80598) (by omega) (by omega) (by omega) (by omega) (by omega) (by omega) (by omega) (by omega) (by omega) (by omega) (by omega) (by omega) (by omega) (by omega) (by omega) (by omega) (rp_mono b1 (by omega) (by omega)) (rp_mono h16 (by omega) (by omega)) (by exact hPr) (by exact hPq) (by exact hG9) (by exact u1) (by omega) (by omega) (by omega) (by exact u2) (by intro z; have h46 := u46_0 (by omega); omega) (by exact fun z => (hW9 z).1) (by exact fun _ => (by omega)) (by exact fun z => (hW9 z).2 _ _) (by exact u70_0 (by omega)) (fun r100 r100_0 r100_1 r100_2 r100_3 r100_4 r100_5 r100_6 r100_7 r100_8 r100_9 r100_10 r100_11 r100_12 r100_13 f47 f48 f49 f50 f51 f52 f53 f54 f55 f56 f57 h58 h59 u100_0 u100_1 u100_2 => ?_)
              intro x105 ex105
              have f60 : x105.toInt = l8_70.toInt + 1 := i_add (a := l8_70.toInt) (b := 1) ex105 rfl rfl (by omega) (by omega)
              exact ih_70 r100 x105 r100_0 r100_1 r100_2 r100_3 r100_4 r100_5 r100_6 r100_7 r100_8 r100_9 r100_10 r100_11 r100_12 r100_13  (by omega) (by omega) (by omega) (by omega) (by omega) (by omega) (by omega) (by omega) (rp_mono h58 (by omega) (by omega)) (rp_mono h59 (by omega) (by omega)) (rp_mono h58 (by omega) (by omega)) (by first | exact fun z => u100_1 z | exact fun _ z => (by have h9 := (hW9 z).2 v_seen x60.toInt; have e0 : (0 : Int32).toInt = 0 := rfl; omega)) (by first | exact fun z => ⟨(u100_0 z).1, (by have h9 := (u100_0 z).2; omega), (u100_0 z).2.2, (by omega)⟩ | exact fun z => absurd z (by decide)) (by have h8_0 := i_rng l8_70; have h8_1 := i_rng x105; omega)
          refine ⟨fun c79 => ?_, fun c79 => ?_⟩
          · have f61 : p4.toInt = 0 := i_eq (a := p4.toInt) (b := 0) rfl rfl c79
            exact j_90 x23 (by omega) (by omega) (by omega)
          · have f62 : p4.toInt ≠ 0 := i_ne (a := p4.toInt) (b := 0) rfl rfl c79
            exact j_90 p3 (by omega) (by omega) (by omega)
    exact ⟨((-1) * p3.toInt + 2147483648).toNat + 1, j_70   (((-1) * p3.toInt + 2147483648).toNat + 1) 0 p3 v_trail v_choices v_now v_spot 0 false v_reg v_trailOf v_trailOld v_choiceSort v_choiceAct v_choicePlace v_choiceTrail v_seen  (by omega) (by omega) (by omega) (by omega) (by omega) (by omega) (by omega) (by omega) (rp_mono b2 (by omega) (by omega)) (rp_mono b2 (by omega) (by omega)) (rp_mono b2 (by omega) (by omega)) (by first | exact fun z => u100_1 z | exact fun _ z => (by have h9 := (hW9 z).2 v_seen x60.toInt; have e0 : (0 : Int32).toInt = 0 := rfl; omega)) (by first | exact fun z => ⟨(u100_0 z).1, (by have h9 := (u100_0 z).2; omega), (u100_0 z).2.2, (by omega)⟩ | exact fun z => absurd z (by decide)) (by omega)⟩
  refine ⟨fun c35 => ?_, fun c35 => ?_⟩
  · have f63 : p5.toInt = 0 := i_eq (a := p5.toInt) (b := 0) rfl rfl c35
    exact j_46 p6 (by omega) (by omega) (by first | exact fun _ => (by omega) | exact fun z => absurd z (by omega))
  · have f64 : p5.toInt ≠ 0 := i_ne (a := p5.toInt) (b := 0) rfl rfl c35
    exact j_46 2147483647 (by omega) (by omega) (by first | exact fun _ => (by omega) | exact fun z => absurd z (by omega))
