set_option maxHeartbeats 4000000 in
theorem ok_X12_compileNode {p1 : Int32} {p2 : Int32} {p3 : Int32} {v_labels : Int32} {v_tasks : Int32} {v_sort : Nat → Int32} {v_value : Nat → Int32} {v_least : Nat → Int32} {v_most : Nat → Int32} {v_end : Nat → Int32} {v_task : Nat → Int32} {v_taskA : Nat → Int32} {v_taskB : Nat → Int32} {v_held : Nat → Int32} {gZ : Int → Int} {gC : Int → zT} {gL : Int → zT} {gsi : zT} {gs0 : zT} {gta : zT} {gbs : Int} {gq9 : Int} {gn9 : Int} {gc9 : Int} {gfi : Int} {gB1 : Int} {gB2 : Int} {v_holder : Nat → Int32} {v_parts : Nat → Int32} {v_firstPart : Nat → Int32} {v_partBegin : Nat → Int32} {v_partEnd : Nat → Int32} {v_act : Nat → Int32} {v_actA : Nat → Int32} {v_actB : Nat → Int32} {v_labelAt : Nat → Int32} {v_acts : Int32} {Q : Int32 → Int32 → (Nat → Int32) → (Nat → Int32) → (Nat → Int32) → (Nat → Int32) → Prop} (a0 : 0 ≤ p3.toInt) (a1 : p3.toInt ≤ 1) (a2 : 0 ≤ v_tasks.toInt) (a3 : v_tasks.toInt ≤ 4900) (a4 : 0 ≤ v_labels.toInt) (a5 : v_labels.toInt ≤ 2700) (a6 : 0 ≤ p1.toInt) (a7 : p1.toInt ≤ 5) (a8 : 0 ≤ p2.toInt) (a9 : p2.toInt ≤ 219) (u0 : zND v_sort v_value v_least v_most v_holder v_parts v_end v_firstPart v_partBegin v_partEnd v_act v_actA v_actB v_labelAt v_task v_taskA v_taskB gZ gbs gq9 gn9 gc9 gfi v_acts.toInt v_labels.toInt v_tasks.toInt gC gL gsi gs0 gta (p2.toInt) gB1 gB2) (u1 : gbs = 220 * p1.toInt) (u2 : (gfi = 1 ∧ p3.toInt ≠ 0) ∨ (gfi = 0 ∧ p3.toInt = 0)) (hq : ∀ (ov_labels : Int32) (ov_tasks : Int32) (ov_task : Nat → Int32) (ov_taskA : Nat → Int32) (ov_taskB : Nat → Int32) (ov_held : Nat → Int32), v_labels.toInt ≤ ov_labels.toInt → v_tasks.toInt ≤ ov_tasks.toInt → ov_labels.toInt ≤ 2999 → ov_tasks.toInt ≤ 5999 → (zWp v_sort v_value v_end v_act v_actA v_actB v_labelAt ov_task ov_taskA ov_taskB gZ gbs gn9 gfi v_acts.toInt ov_labels.toInt ov_tasks.toInt gC gsi (p2.toInt) gB1 gB2) → Q ov_labels ov_tasks ov_task ov_taskA ov_taskB ov_held) : w_X12_compileNode p1 p2 p3 v_labels v_tasks v_sort v_value v_least v_most v_end v_task v_taskA v_taskB v_held Q := by
  have q_t : (bz true).toInt = 1 := rfl
  have q_f : (bz false).toInt = 0 := rfl
  have q_0 : (0 : Int32).toInt = 0 := rfl
  have q_1 : (1 : Int32).toInt = 1 := rfl
  have q_2 : (2 : Int32).toInt = 2 := rfl
  have q_6 : (6 : Int32).toInt = 6 := rfl
  have q_7 : (7 : Int32).toInt = 7 := rfl
  have q_11 : (11 : Int32).toInt = 11 := rfl
  have q_12 : (12 : Int32).toInt = 12 := rfl
  have q_21 : (21 : Int32).toInt = 21 := rfl
  have q_100 : (100 : Int32).toInt = 100 := rfl
  unfold w_X12_compileNode
  have hr9 := zN_r u0
  intro x4 ex4
  have f1 : x4.toInt = 220 * p1.toInt := i_mul (a := 220) (b := p1.toInt) ex4 rfl rfl (by omega) (by omega)
  intro x10 ex10
  have f2 : x10.toInt = x4.toInt + p2.toInt := i_add (a := x4.toInt) (b := p2.toInt) ex10 rfl rfl (by omega) (by omega)
  intro x18 ex18
  have f3 : x18.toInt = p2.toInt + 1 := i_add (a := p2.toInt) (b := 1) ex18 rfl rfl (by omega) (by omega)
  have j_21 : ∀ n_21 : Nat, ∀ (l6_21 : Int32) (l7_21 : Int32) (v_held_21 : Nat → Int32), 0 ≤ l6_21.toInt → l7_21.toInt ≤ 220 → l6_21.toInt + p2.toInt + 1 ≤ l7_21.toInt → (zHl v_held_21 v_end gbs l6_21.toInt l7_21.toInt p2.toInt (zg v_end (gbs + p2.toInt))) → ((-1) * l6_21.toInt + 2147483648).toNat < n_21 → w_X12_compileNode_21 p2 p3 v_sort v_value v_least v_most v_end Q x4 x10 v_labels v_tasks v_task v_taskA v_taskB n_21 l6_21 l7_21 v_held_21 := by
    intro n_21
    induction n_21 with
    | zero =>
      intro l6_21 l7_21 v_held_21 f4 f5 f6 u21_0 hm_21
      exfalso; omega
    | succ n_21 ih_21 =>
      intro l6_21 l7_21 v_held_21 f4 f5 f6 u21_0 hm_21
      unfold w_X12_compileNode_21
      unfold w_X12_compileNode_21B
      refine ⟨i_in (by omega) (by omega), ?_⟩
      intro x29 ex29
      have h29 := zg_at2 (k := gbs + p2.toInt) ex29 (by omega)
      have f7 : (p2.toInt + 1 ≤ x29.toInt ∧ x29.toInt ≤ 220) := by omega
      refine ⟨fun c30 => ?_, fun c30 => ?_⟩
      · have f8 : x29.toInt ≤ l7_21.toInt := i_le (a := x29.toInt) (b := l7_21.toInt) rfl rfl c30
        have hH9 := zHl_e u21_0 (by omega)
        refine ⟨i_in (by omega) (by omega), ?_⟩
        intro x66 ex66
        have h66 := zg_at2 (k := gbs + p2.toInt) ex66 (by omega)
        have f9 : (0 ≤ x66.toInt ∧ x66.toInt ≤ 11) := by omega
        have j_315 : ∀ (v_labels_315 : Int32) (v_tasks_315 : Int32) (v_task_315 : Nat → Int32) (v_taskA_315 : Nat → Int32) (v_taskB_315 : Nat → Int32), v_labels.toInt ≤ v_labels_315.toInt → v_tasks.toInt ≤ v_tasks_315.toInt → v_labels_315.toInt ≤ 2999 → v_tasks_315.toInt ≤ 5999 → (zWp v_sort v_value v_end v_act v_actA v_actB v_labelAt v_task_315 v_taskA_315 v_taskB_315 gZ gbs gn9 gfi v_acts.toInt v_labels_315.toInt v_tasks_315.toInt gC gsi (p2.toInt) gB1 gB2) → w_X12_compileNode_315 Q v_labels_315 v_tasks_315 v_task_315 v_taskA_315 v_taskB_315 v_held_21 := by
          intro v_labels_315 v_tasks_315 v_task_315 v_taskA_315 v_taskB_315 f10 f11 f12 f13 u315_0
          unfold w_X12_compileNode_315
          exact hq v_labels_315 v_tasks_315 v_task_315 v_taskA_315 v_taskB_315 v_held_21 (by omega) (by omega) (by omega) (by omega) (by assumption)
        refine ⟨fun c67_0 => ?_, fun c67_1 => ?_, fun c67_2 => ?_, fun c67_3 => ?_, fun c67_4 => ?_, fun c67_5 => ?_, fun c67_6 => ?_, fun c67_7 => ?_, fun c67_8 => ?_, ?_⟩
        · have f14 : x66.toInt = 3 := i_eq (a := x66.toInt) (b := 3) rfl rfl c67_0
          refine ok_X12_later (by omega) (by omega) (fun r120_0 r120_1 r120_2 r120_3 f15 u120_0 u120_1 u120_2 => ?_)
          exact j_315 v_labels r120_0 r120_1 r120_2 r120_3 (by omega) (by omega) (by omega) (by omega) (by first | exact zN_l u0 u120_0 u120_1 u120_2 (Or.inr (Or.inl (by decide))) rfl (by omega) (by omega) | exact zN_l u0 u130_0 u130_1 u130_2 (Or.inr (Or.inr ⟨by decide, by omega⟩)) rfl (by omega) (by omega) | exact zRo_e u0 hH9 u142_0 (by omega) (by omega) | exact zC_n u0 u173_0 u185_0 u185_1 u185_2 (by omega) (by omega) (by decide) (by decide) (by omega) | exact zC_f u0 u173_0 (by omega) (by omega) | exact u199_0 | exact u209_0 | exact zN_k u0 u226_0 u226_1 u226_2 u236_0 u236_1 u236_2 u250_0 u250_1 u250_2 (by omega) (by decide) (by decide) (by decide) (zg_at2 ex224 (by omega)) (by omega) (zg_at2 ex248 (by omega)) (by omega) (by omega) (by omega) | exact u260_0 | exact zN_t u0 u271_0 u271_1 u271_2 u281_0 u281_1 u281_2 u289_0 u289_1 u289_2 (by omega) (by decide) (by decide) (by decide) rfl (by omega) rfl (by omega) (by omega) (by omega) | exact zN_c u0 u302_0 u302_1 u302_2 (by decide) (by omega) (by omega) (by omega) | exact zN_l u0 u312_0 u312_1 u312_2 (Or.inl ⟨by decide, by omega⟩) rfl (by omega) (by omega))
        · have f16 : x66.toInt = 4 := i_eq (a := x66.toInt) (b := 4) rfl rfl c67_1
          refine ok_X12_later (by omega) (by omega) (fun r130_0 r130_1 r130_2 r130_3 f17 u130_0 u130_1 u130_2 => ?_)
          exact j_315 v_labels r130_0 r130_1 r130_2 r130_3 (by omega) (by omega) (by omega) (by omega) (by first | exact zN_l u0 u120_0 u120_1 u120_2 (Or.inr (Or.inl (by decide))) rfl (by omega) (by omega) | exact zN_l u0 u130_0 u130_1 u130_2 (Or.inr (Or.inr ⟨by decide, by omega⟩)) rfl (by omega) (by omega) | exact zRo_e u0 hH9 u142_0 (by omega) (by omega) | exact zC_n u0 u173_0 u185_0 u185_1 u185_2 (by omega) (by omega) (by decide) (by decide) (by omega) | exact zC_f u0 u173_0 (by omega) (by omega) | exact u199_0 | exact u209_0 | exact zN_k u0 u226_0 u226_1 u226_2 u236_0 u236_1 u236_2 u250_0 u250_1 u250_2 (by omega) (by decide) (by decide) (by decide) (zg_at2 ex224 (by omega)) (by omega) (zg_at2 ex248 (by omega)) (by omega) (by omega) (by omega) | exact u260_0 | exact zN_t u0 u271_0 u271_1 u271_2 u281_0 u281_1 u281_2 u289_0 u289_1 u289_2 (by omega) (by decide) (by decide) (by decide) rfl (by omega) rfl (by omega) (by omega) (by omega) | exact zN_c u0 u302_0 u302_1 u302_2 (by decide) (by omega) (by omega) (by omega) | exact zN_l u0 u312_0 u312_1 u312_2 (Or.inl ⟨by decide, by omega⟩) rfl (by omega) (by omega))
        · have f18 : x66.toInt = 5 := i_eq (a := x66.toInt) (b := 5) rfl rfl c67_2
          intro x139 ex139
          have f19 : x139.toInt = l6_21.toInt - 1 := i_sub (a := l6_21.toInt) (b := 1) ex139 rfl rfl (by omega) (by omega)
          have j_142 : ∀ n_142 : Nat, ∀ (l7_142 : Int32) (v_tasks_142 : Int32) (v_task_142 : Nat → Int32) (v_taskA_142 : Nat → Int32) (v_taskB_142 : Nat → Int32), l7_142.toInt ≤ x139.toInt → l7_142.toInt + v_tasks_142.toInt ≤ v_tasks.toInt + 220 → 0 ≤ l7_142.toInt + 1 → v_tasks.toInt ≤ v_tasks_142.toInt → (zRo v_sort v_value v_end v_act v_actA v_actB v_labelAt v_task_142 v_taskA_142 v_taskB_142 gZ gbs gn9 gfi v_acts.toInt v_labels.toInt v_tasks_142.toInt gC gL gsi gta gs0.1 (zhq v_held_21 l6_21.toInt (zg v_end (gbs + p2.toInt)) l7_142.toInt) (zg v_end (gbs + p2.toInt)) gB1 gB2) → (l7_142.toInt + 2147483649).toNat < n_142 → w_X12_compileNode_142 Q v_labels v_held_21 n_142 l7_142 v_tasks_142 v_task_142 v_taskA_142 v_taskB_142 := by
            intro n_142
            induction n_142 with
            | zero =>
              intro l7_142 v_tasks_142 v_task_142 v_taskA_142 v_taskB_142 f20 f21 f22 f23 u142_0 hm_142
              exfalso; omega
            | succ n_142 ih_142 =>
              intro l7_142 v_tasks_142 v_task_142 v_taskA_142 v_taskB_142 f20 f21 f22 f23 u142_0 hm_142
              unfold w_X12_compileNode_142
              unfold w_X12_compileNode_142B
              refine ⟨fun c144 => ?_, fun c144 => ?_⟩
              · have f24 : l7_142.toInt < 0 := i_lt (a := l7_142.toInt) (b := 0) rfl rfl c144
                exact j_315 v_labels v_tasks_142 v_task_142 v_taskA_142 v_taskB_142 (by omega) (by omega) (by omega) (by omega) (by first | exact zN_l u0 u120_0 u120_1 u120_2 (Or.inr (Or.inl (by decide))) rfl (by omega) (by omega) | exact zN_l u0 u130_0 u130_1 u130_2 (Or.inr (Or.inr ⟨by decide, by omega⟩)) rfl (by omega) (by omega) | exact zRo_e u0 hH9 u142_0 (by omega) (by omega) | exact zC_n u0 u173_0 u185_0 u185_1 u185_2 (by omega) (by omega) (by decide) (by decide) (by omega) | exact zC_f u0 u173_0 (by omega) (by omega) | exact u199_0 | exact u209_0 | exact zN_k u0 u226_0 u226_1 u226_2 u236_0 u236_1 u236_2 u250_0 u250_1 u250_2 (by omega) (by decide) (by decide) (by decide) (zg_at2 ex224 (by omega)) (by omega) (zg_at2 ex248 (by omega)) (by omega) (by omega) (by omega) | exact u260_0 | exact zN_t u0 u271_0 u271_1 u271_2 u281_0 u281_1 u281_2 u289_0 u289_1 u289_2 (by omega) (by decide) (by decide) (by decide) rfl (by omega) rfl (by omega) (by omega) (by omega) | exact zN_c u0 u302_0 u302_1 u302_2 (by decide) (by omega) (by omega) (by omega) | exact zN_l u0 u312_0 u312_1 u312_2 (Or.inl ⟨by decide, by omega⟩) rfl (by omega) (by omega))
              · have f25 : 0 ≤ l7_142.toInt := i_nlt (a := l7_142.toInt) (b := 0) rfl rfl c144
                refine ⟨i_in (by omega) (by omega), ?_⟩
                intro x156 ex156
                refine ok_X12_later (by omega) (by omega) (fun r158_0 r158_1 r158_2 r158_3 f26 u158_0 u158_1 u158_2 => ?_)
                intro x161 ex161
                have f27 : x161.toInt = l7_142.toInt + (-1) := i_add (a := l7_142.toInt) (b := (-1)) ex161 rfl rfl (by omega) (by omega)
                exact ih_142 x161 r158_0 r158_1 r158_2 r158_3  (by omega) (by omega) (by omega) (by omega) (by first | exact zRo_s u0 hH9 u142_0 u158_0 u158_1 u158_2 ex156 (by decide) (by omega) (by omega) (by omega) (by omega) | (rw [show zhq v_held_21 l6_21.toInt (zg v_end (gbs + p2.toInt)) _ = (zg v_end (gbs + p2.toInt)) from if_pos (by omega)]; exact zRo_0 u0)) (by have h8_0 := i_rng l7_142; have h8_1 := i_rng x161; omega)
          exact ⟨(x139.toInt + 2147483649).toNat + 1, j_142   ((x139.toInt + 2147483649).toNat + 1) x139 v_tasks v_task v_taskA v_taskB  (by omega) (by omega) (by omega) (by omega) (by first | exact zRo_s u0 hH9 u142_0 u158_0 u158_1 u158_2 ex156 (by decide) (by omega) (by omega) (by omega) (by omega) | (rw [show zhq v_held_21 l6_21.toInt (zg v_end (gbs + p2.toInt)) _ = (zg v_end (gbs + p2.toInt)) from if_pos (by omega)]; exact zRo_0 u0)) (by omega)⟩
        · have f28 : x66.toInt = 6 := i_eq (a := x66.toInt) (b := 6) rfl rfl c67_3
          have f29 : 1 ≤ l6_21.toInt := zN_6 u0 hH9 (by omega)
          refine ok_X12_compileChoice (gZ := gZ) (gC := gC) (gL := gL) (gsi := gsi) (gs0 := gs0) (gta := gta) (gbs := gbs) (gq9 := gq9) (gn9 := gn9) (gc9 := gc9) (gfi := gfi) (gB1 := gB1) (gB2 := gB2) (v_sort := v_sort) (v_value := v_value) (v_least := v_least) (v_most := v_most) (v_holder := v_holder) (v_parts := v_parts) (v_end := v_end) (v_firstPart := v_firstPart) (v_partBegin := v_partBegin) (v_partEnd := v_partEnd) (v_act := v_act) (v_actA := v_actA) (v_actB := v_actB) (v_labelAt := v_labelAt) (v_acts := v_acts) (gk := p2.toInt) (by omega) (by omega) (by omega) (by omega) (by omega) (by omega) (by exact u0) (by exact hH9) (fun r173_0 r173_1 r173_2 r173_3 r173_4 f30 f31 f32 f33 f34 f35 f36 f37 f38 f39 f40 f41 f42 f43 f44 f45 f46 f47 f48 f49 u173_0 => ?_)
          refine ⟨fun c177 => ?_, fun c177 => ?_⟩
          · have f50 : p3.toInt ≠ 0 := i_ne (a := p3.toInt) (b := 0) rfl rfl c177
            exact j_315 r173_0 r173_1 r173_2 r173_3 r173_4 (by omega) (by omega) (by omega) (by omega) (by first | exact zN_l u0 u120_0 u120_1 u120_2 (Or.inr (Or.inl (by decide))) rfl (by omega) (by omega) | exact zN_l u0 u130_0 u130_1 u130_2 (Or.inr (Or.inr ⟨by decide, by omega⟩)) rfl (by omega) (by omega) | exact zRo_e u0 hH9 u142_0 (by omega) (by omega) | exact zC_n u0 u173_0 u185_0 u185_1 u185_2 (by omega) (by omega) (by decide) (by decide) (by omega) | exact zC_f u0 u173_0 (by omega) (by omega) | exact u199_0 | exact u209_0 | exact zN_k u0 u226_0 u226_1 u226_2 u236_0 u236_1 u236_2 u250_0 u250_1 u250_2 (by omega) (by decide) (by decide) (by decide) (zg_at2 ex224 (by omega)) (by omega) (zg_at2 ex248 (by omega)) (by omega) (by omega) (by omega) | exact u260_0 | exact zN_t u0 u271_0 u271_1 u271_2 u281_0 u281_1 u281_2 u289_0 u289_1 u289_2 (by omega) (by decide) (by decide) (by decide) rfl (by omega) rfl (by omega) (by omega) (by omega) | exact zN_c u0 u302_0 u302_1 u302_2 (by decide) (by omega) (by omega) (by omega) | exact zN_l u0 u312_0 u312_1 u312_2 (Or.inl ⟨by decide, by omega⟩) rfl (by omega) (by omega))
          · have f51 : p3.toInt = 0 := i_eq (a := p3.toInt) (b := 0) rfl rfl c177
            refine ok_X12_later (by omega) (by omega) (fun r185_0 r185_1 r185_2 r185_3 f52 u185_0 u185_1 u185_2 => ?_)
            exact j_315 r173_0 r185_0 r185_1 r185_2 r185_3 (by omega) (by omega) (by omega) (by omega) (by first | exact zN_l u0 u120_0 u120_1 u120_2 (Or.inr (Or.inl (by decide))) rfl (by omega) (by omega) | exact zN_l u0 u130_0 u130_1 u130_2 (Or.inr (Or.inr ⟨by decide, by omega⟩)) rfl (by omega) (by omega) | exact zRo_e u0 hH9 u142_0 (by omega) (by omega) | exact zC_n u0 u173_0 u185_0 u185_1 u185_2 (by omega) (by omega) (by decide) (by decide) (by omega) | exact zC_f u0 u173_0 (by omega) (by omega) | exact u199_0 | exact u209_0 | exact zN_k u0 u226_0 u226_1 u226_2 u236_0 u236_1 u236_2 u250_0 u250_1 u250_2 (by omega) (by decide) (by decide) (by decide) (zg_at2 ex224 (by omega)) (by omega) (zg_at2 ex248 (by omega)) (by omega) (by omega) (by omega) | exact u260_0 | exact zN_t u0 u271_0 u271_1 u271_2 u281_0 u281_1 u281_2 u289_0 u289_1 u289_2 (by omega) (by decide) (by decide) (by decide) rfl (by omega) rfl (by omega) (by omega) (by omega) | exact zN_c u0 u302_0 u302_1 u302_2 (by decide) (by omega) (by omega) (by omega) | exact zN_l u0 u312_0 u312_1 u312_2 (Or.inl ⟨by decide, by omega⟩) rfl (by omega) (by omega))
        · have f53 : x66.toInt = 7 := i_eq (a := x66.toInt) (b := 7) rfl rfl c67_4
          refine ⟨fun c192 => ?_, fun c192 => ?_⟩
          · have f54 : p3.toInt = 0 := i_eq (a := p3.toInt) (b := 0) rfl rfl c192
            refine ok_X12_compileLoop (gZ := gZ) (gC := gC) (gL := gL) (gsi := gsi) (gs0 := gs0) (gta := gta) (gbs := gbs) (gq9 := gq9) (gn9 := gn9) (gc9 := gc9) (gfi := gfi) (gB1 := gB1) (gB2 := gB2) (v_sort := v_sort) (v_least := v_least) (v_most := v_most) (v_holder := v_holder) (v_parts := v_parts) (v_end := v_end) (v_firstPart := v_firstPart) (v_partBegin := v_partBegin) (v_partEnd := v_partEnd) (v_act := v_act) (v_actA := v_actA) (v_actB := v_actB) (v_labelAt := v_labelAt) (v_acts := v_acts) (by omega) (by omega) (by omega) (by omega) (by omega) (by omega) (by omega) (by omega) (by exact u0) (by omega) (by omega) (by omega) (fun r209_0 r209_1 r209_2 r209_3 r209_4 f55 f56 f57 f58 u209_0 => ?_)
            exact j_315 r209_0 r209_1 r209_2 r209_3 r209_4 (by omega) (by omega) (by omega) (by omega) (by first | exact zN_l u0 u120_0 u120_1 u120_2 (Or.inr (Or.inl (by decide))) rfl (by omega) (by omega) | exact zN_l u0 u130_0 u130_1 u130_2 (Or.inr (Or.inr ⟨by decide, by omega⟩)) rfl (by omega) (by omega) | exact zRo_e u0 hH9 u142_0 (by omega) (by omega) | exact zC_n u0 u173_0 u185_0 u185_1 u185_2 (by omega) (by omega) (by decide) (by decide) (by omega) | exact zC_f u0 u173_0 (by omega) (by omega) | exact u199_0 | exact u209_0 | exact zN_k u0 u226_0 u226_1 u226_2 u236_0 u236_1 u236_2 u250_0 u250_1 u250_2 (by omega) (by decide) (by decide) (by decide) (zg_at2 ex224 (by omega)) (by omega) (zg_at2 ex248 (by omega)) (by omega) (by omega) (by omega) | exact u260_0 | exact zN_t u0 u271_0 u271_1 u271_2 u281_0 u281_1 u281_2 u289_0 u289_1 u289_2 (by omega) (by decide) (by decide) (by decide) rfl (by omega) rfl (by omega) (by omega) (by omega) | exact zN_c u0 u302_0 u302_1 u302_2 (by decide) (by omega) (by omega) (by omega) | exact zN_l u0 u312_0 u312_1 u312_2 (Or.inl ⟨by decide, by omega⟩) rfl (by omega) (by omega))
          · have f59 : p3.toInt ≠ 0 := i_ne (a := p3.toInt) (b := 0) rfl rfl c192
            refine ok_X12_compileCopies (gZ := gZ) (gC := gC) (gL := gL) (gsi := gsi) (gs0 := gs0) (gta := gta) (gbs := gbs) (gq9 := gq9) (gn9 := gn9) (gc9 := gc9) (gfi := gfi) (gB1 := gB1) (gB2 := gB2) (v_sort := v_sort) (v_holder := v_holder) (v_parts := v_parts) (v_end := v_end) (v_firstPart := v_firstPart) (v_partBegin := v_partBegin) (v_partEnd := v_partEnd) (v_act := v_act) (v_actA := v_actA) (v_actB := v_actB) (v_labelAt := v_labelAt) (v_acts := v_acts) (by omega) (by omega) (by omega) (by omega) (by omega) (by omega) (by omega) (by omega) (by exact u0) (by omega) (by omega) (by omega) (fun r199_0 r199_1 r199_2 r199_3 r199_4 f60 f61 f62 f63 f64 f65 f66 f67 f68 f69 u199_0 => ?_)
            exact j_315 r199_0 r199_1 r199_2 r199_3 r199_4 (by omega) (by omega) (by omega) (by omega) (by first | exact zN_l u0 u120_0 u120_1 u120_2 (Or.inr (Or.inl (by decide))) rfl (by omega) (by omega) | exact zN_l u0 u130_0 u130_1 u130_2 (Or.inr (Or.inr ⟨by decide, by omega⟩)) rfl (by omega) (by omega) | exact zRo_e u0 hH9 u142_0 (by omega) (by omega) | exact zC_n u0 u173_0 u185_0 u185_1 u185_2 (by omega) (by omega) (by decide) (by decide) (by omega) | exact zC_f u0 u173_0 (by omega) (by omega) | exact u199_0 | exact u209_0 | exact zN_k u0 u226_0 u226_1 u226_2 u236_0 u236_1 u236_2 u250_0 u250_1 u250_2 (by omega) (by decide) (by decide) (by decide) (zg_at2 ex224 (by omega)) (by omega) (zg_at2 ex248 (by omega)) (by omega) (by omega) (by omega) | exact u260_0 | exact zN_t u0 u271_0 u271_1 u271_2 u281_0 u281_1 u281_2 u289_0 u289_1 u289_2 (by omega) (by decide) (by decide) (by decide) rfl (by omega) rfl (by omega) (by omega) (by omega) | exact zN_c u0 u302_0 u302_1 u302_2 (by decide) (by omega) (by omega) (by omega) | exact zN_l u0 u312_0 u312_1 u312_2 (Or.inl ⟨by decide, by omega⟩) rfl (by omega) (by omega))
        · have f70 : x66.toInt = 8 := i_eq (a := x66.toInt) (b := 8) rfl rfl c67_5
          refine ⟨i_in (by omega) (by omega), ?_⟩
          intro x224 ex224
          refine ok_X12_later (by omega) (by omega) (fun r226_0 r226_1 r226_2 r226_3 f71 u226_0 u226_1 u226_2 => ?_)
          intro x234 ex234
          have f72 : x234.toInt = p2.toInt + 1 := i_add (a := p2.toInt) (b := 1) ex234 rfl rfl (by omega) (by omega)
          refine ok_X12_later (by omega) (by omega) (fun r236_0 r236_1 r236_2 r236_3 f73 u236_0 u236_1 u236_2 => ?_)
          refine ⟨i_in (by omega) (by omega), ?_⟩
          intro x248 ex248
          have f74 : x248.toInt = x224.toInt := congrArg Int32.toInt (ex248.trans ex224.symm)
          refine ok_X12_later (by omega) (by omega) (fun r250_0 r250_1 r250_2 r250_3 f75 u250_0 u250_1 u250_2 => ?_)
          exact j_315 v_labels r250_0 r250_1 r250_2 r250_3 (by omega) (by omega) (by omega) (by omega) (by first | exact zN_l u0 u120_0 u120_1 u120_2 (Or.inr (Or.inl (by decide))) rfl (by omega) (by omega) | exact zN_l u0 u130_0 u130_1 u130_2 (Or.inr (Or.inr ⟨by decide, by omega⟩)) rfl (by omega) (by omega) | exact zRo_e u0 hH9 u142_0 (by omega) (by omega) | exact zC_n u0 u173_0 u185_0 u185_1 u185_2 (by omega) (by omega) (by decide) (by decide) (by omega) | exact zC_f u0 u173_0 (by omega) (by omega) | exact u199_0 | exact u209_0 | exact zN_k u0 u226_0 u226_1 u226_2 u236_0 u236_1 u236_2 u250_0 u250_1 u250_2 (by omega) (by decide) (by decide) (by decide) (zg_at2 ex224 (by omega)) (by omega) (zg_at2 ex248 (by omega)) (by omega) (by omega) (by omega) | exact u260_0 | exact zN_t u0 u271_0 u271_1 u271_2 u281_0 u281_1 u281_2 u289_0 u289_1 u289_2 (by omega) (by decide) (by decide) (by decide) rfl (by omega) rfl (by omega) (by omega) (by omega) | exact zN_c u0 u302_0 u302_1 u302_2 (by decide) (by omega) (by omega) (by omega) | exact zN_l u0 u312_0 u312_1 u312_2 (Or.inl ⟨by decide, by omega⟩) rfl (by omega) (by omega))
        · have f76 : x66.toInt = 9 := i_eq (a := x66.toInt) (b := 9) rfl rfl c67_6
          refine ok_X12_compileLook (gZ := gZ) (gC := gC) (gL := gL) (gsi := gsi) (gs0 := gs0) (gta := gta) (gbs := gbs) (gq9 := gq9) (gn9 := gn9) (gc9 := gc9) (gfi := gfi) (gB1 := gB1) (gB2 := gB2) (v_sort := v_sort) (v_least := v_least) (v_most := v_most) (v_holder := v_holder) (v_parts := v_parts) (v_end := v_end) (v_firstPart := v_firstPart) (v_partBegin := v_partBegin) (v_partEnd := v_partEnd) (v_act := v_act) (v_actA := v_actA) (v_actB := v_actB) (v_labelAt := v_labelAt) (v_acts := v_acts) (by omega) (by omega) (by omega) (by omega) (by omega) (by omega) (by omega) (by omega) (by exact u0) (by omega) (fun r260_0 r260_1 r260_2 r260_3 r260_4 f77 f78 u260_0 => ?_)
          exact j_315 r260_0 r260_1 r260_2 r260_3 r260_4 (by omega) (by omega) (by omega) (by omega) (by first | exact zN_l u0 u120_0 u120_1 u120_2 (Or.inr (Or.inl (by decide))) rfl (by omega) (by omega) | exact zN_l u0 u130_0 u130_1 u130_2 (Or.inr (Or.inr ⟨by decide, by omega⟩)) rfl (by omega) (by omega) | exact zRo_e u0 hH9 u142_0 (by omega) (by omega) | exact zC_n u0 u173_0 u185_0 u185_1 u185_2 (by omega) (by omega) (by decide) (by decide) (by omega) | exact zC_f u0 u173_0 (by omega) (by omega) | exact u199_0 | exact u209_0 | exact zN_k u0 u226_0 u226_1 u226_2 u236_0 u236_1 u236_2 u250_0 u250_1 u250_2 (by omega) (by decide) (by decide) (by decide) (zg_at2 ex224 (by omega)) (by omega) (zg_at2 ex248 (by omega)) (by omega) (by omega) (by omega) | exact u260_0 | exact zN_t u0 u271_0 u271_1 u271_2 u281_0 u281_1 u281_2 u289_0 u289_1 u289_2 (by omega) (by decide) (by decide) (by decide) rfl (by omega) rfl (by omega) (by omega) (by omega) | exact zN_c u0 u302_0 u302_1 u302_2 (by decide) (by omega) (by omega) (by omega) | exact zN_l u0 u312_0 u312_1 u312_2 (Or.inl ⟨by decide, by omega⟩) rfl (by omega) (by omega))
        · have f79 : x66.toInt = 10 := i_eq (a := x66.toInt) (b := 10) rfl rfl c67_7
          refine ok_X12_later (by omega) (by omega) (fun r271_0 r271_1 r271_2 r271_3 f80 u271_0 u271_1 u271_2 => ?_)
          intro x279 ex279
          have f81 : x279.toInt = p2.toInt + 1 := i_add (a := p2.toInt) (b := 1) ex279 rfl rfl (by omega) (by omega)
          refine ok_X12_later (by omega) (by omega) (fun r281_0 r281_1 r281_2 r281_3 f82 u281_0 u281_1 u281_2 => ?_)
          refine ok_X12_later (by omega) (by omega) (fun r289_0 r289_1 r289_2 r289_3 f83 u289_0 u289_1 u289_2 => ?_)
          exact j_315 v_labels r289_0 r289_1 r289_2 r289_3 (by omega) (by omega) (by omega) (by omega) (by first | exact zN_l u0 u120_0 u120_1 u120_2 (Or.inr (Or.inl (by decide))) rfl (by omega) (by omega) | exact zN_l u0 u130_0 u130_1 u130_2 (Or.inr (Or.inr ⟨by decide, by omega⟩)) rfl (by omega) (by omega) | exact zRo_e u0 hH9 u142_0 (by omega) (by omega) | exact zC_n u0 u173_0 u185_0 u185_1 u185_2 (by omega) (by omega) (by decide) (by decide) (by omega) | exact zC_f u0 u173_0 (by omega) (by omega) | exact u199_0 | exact u209_0 | exact zN_k u0 u226_0 u226_1 u226_2 u236_0 u236_1 u236_2 u250_0 u250_1 u250_2 (by omega) (by decide) (by decide) (by decide) (zg_at2 ex224 (by omega)) (by omega) (zg_at2 ex248 (by omega)) (by omega) (by omega) (by omega) | exact u260_0 | exact zN_t u0 u271_0 u271_1 u271_2 u281_0 u281_1 u281_2 u289_0 u289_1 u289_2 (by omega) (by decide) (by decide) (by decide) rfl (by omega) rfl (by omega) (by omega) (by omega) | exact zN_c u0 u302_0 u302_1 u302_2 (by decide) (by omega) (by omega) (by omega) | exact zN_l u0 u312_0 u312_1 u312_2 (Or.inl ⟨by decide, by omega⟩) rfl (by omega) (by omega))
        · have f84 : x66.toInt = 11 := i_eq (a := x66.toInt) (b := 11) rfl rfl c67_8
          intro x300 ex300
          have f85 : x300.toInt = p2.toInt + 1 := i_add (a := p2.toInt) (b := 1) ex300 rfl rfl (by omega) (by omega)
          refine ok_X12_later (by omega) (by omega) (fun r302_0 r302_1 r302_2 r302_3 f86 u302_0 u302_1 u302_2 => ?_)
          exact j_315 v_labels r302_0 r302_1 r302_2 r302_3 (by omega) (by omega) (by omega) (by omega) (by first | exact zN_l u0 u120_0 u120_1 u120_2 (Or.inr (Or.inl (by decide))) rfl (by omega) (by omega) | exact zN_l u0 u130_0 u130_1 u130_2 (Or.inr (Or.inr ⟨by decide, by omega⟩)) rfl (by omega) (by omega) | exact zRo_e u0 hH9 u142_0 (by omega) (by omega) | exact zC_n u0 u173_0 u185_0 u185_1 u185_2 (by omega) (by omega) (by decide) (by decide) (by omega) | exact zC_f u0 u173_0 (by omega) (by omega) | exact u199_0 | exact u209_0 | exact zN_k u0 u226_0 u226_1 u226_2 u236_0 u236_1 u236_2 u250_0 u250_1 u250_2 (by omega) (by decide) (by decide) (by decide) (zg_at2 ex224 (by omega)) (by omega) (zg_at2 ex248 (by omega)) (by omega) (by omega) (by omega) | exact u260_0 | exact zN_t u0 u271_0 u271_1 u271_2 u281_0 u281_1 u281_2 u289_0 u289_1 u289_2 (by omega) (by decide) (by decide) (by decide) rfl (by omega) rfl (by omega) (by omega) (by omega) | exact zN_c u0 u302_0 u302_1 u302_2 (by decide) (by omega) (by omega) (by omega) | exact zN_l u0 u312_0 u312_1 u312_2 (Or.inl ⟨by decide, by omega⟩) rfl (by omega) (by omega))
        · intro c67_0 c67_1 c67_2 c67_3 c67_4 c67_5 c67_6 c67_7 c67_8
          have f87 : x66.toInt ≠ 3 := i_ne (a := x66.toInt) (b := 3) rfl rfl c67_0
          have f88 : x66.toInt ≠ 4 := i_ne (a := x66.toInt) (b := 4) rfl rfl c67_1
          have f89 : x66.toInt ≠ 5 := i_ne (a := x66.toInt) (b := 5) rfl rfl c67_2
          have f90 : x66.toInt ≠ 6 := i_ne (a := x66.toInt) (b := 6) rfl rfl c67_3
          have f91 : x66.toInt ≠ 7 := i_ne (a := x66.toInt) (b := 7) rfl rfl c67_4
          have f92 : x66.toInt ≠ 8 := i_ne (a := x66.toInt) (b := 8) rfl rfl c67_5
          have f93 : x66.toInt ≠ 9 := i_ne (a := x66.toInt) (b := 9) rfl rfl c67_6
          have f94 : x66.toInt ≠ 10 := i_ne (a := x66.toInt) (b := 10) rfl rfl c67_7
          have f95 : x66.toInt ≠ 11 := i_ne (a := x66.toInt) (b := 11) rfl rfl c67_8
          refine ok_X12_later (by omega) (by omega) (fun r312_0 r312_1 r312_2 r312_3 f96 u312_0 u312_1 u312_2 => ?_)
          exact j_315 v_labels r312_0 r312_1 r312_2 r312_3 (by omega) (by omega) (by omega) (by omega) (by first | exact zN_l u0 u120_0 u120_1 u120_2 (Or.inr (Or.inl (by decide))) rfl (by omega) (by omega) | exact zN_l u0 u130_0 u130_1 u130_2 (Or.inr (Or.inr ⟨by decide, by omega⟩)) rfl (by omega) (by omega) | exact zRo_e u0 hH9 u142_0 (by omega) (by omega) | exact zC_n u0 u173_0 u185_0 u185_1 u185_2 (by omega) (by omega) (by decide) (by decide) (by omega) | exact zC_f u0 u173_0 (by omega) (by omega) | exact u199_0 | exact u209_0 | exact zN_k u0 u226_0 u226_1 u226_2 u236_0 u236_1 u236_2 u250_0 u250_1 u250_2 (by omega) (by decide) (by decide) (by decide) (zg_at2 ex224 (by omega)) (by omega) (zg_at2 ex248 (by omega)) (by omega) (by omega) (by omega) | exact u260_0 | exact zN_t u0 u271_0 u271_1 u271_2 u281_0 u281_1 u281_2 u289_0 u289_1 u289_2 (by omega) (by decide) (by decide) (by decide) rfl (by omega) rfl (by omega) (by omega) (by omega) | exact zN_c u0 u302_0 u302_1 u302_2 (by decide) (by omega) (by omega) (by omega) | exact zN_l u0 u312_0 u312_1 u312_2 (Or.inl ⟨by decide, by omega⟩) rfl (by omega) (by omega))
      · have f97 : l7_21.toInt < x29.toInt := i_nle (a := x29.toInt) (b := l7_21.toInt) rfl rfl c30
        refine ⟨i_in (by omega) (by omega), ?_⟩
        intro g41 eg41
        intro x42 ex42
        have f98 : x42.toInt = l6_21.toInt + 1 := i_add (a := l6_21.toInt) (b := 1) ex42 rfl rfl (by omega) (by omega)
        intro x53 ex53
        have f99 : x53.toInt = x4.toInt + l7_21.toInt := i_add (a := x4.toInt) (b := l7_21.toInt) ex53 rfl rfl (by omega) (by omega)
        refine ⟨i_in (by omega) (by omega), ?_⟩
        intro x54 ex54
        have hs9 := zHl_s (x' := x42.toInt) u0 u21_0 eg41 ex54 (by omega) (by omega) (by omega)
        have f100 : (l7_21.toInt + 1 ≤ x54.toInt ∧ x54.toInt ≤ 220) := by have h9 := hs9.2; have h8 := hs9.1.2.2.2.2; omega
        exact ih_21 x42 x54 g41  (by omega) (by omega) (by omega) (by first | exact hs9.1 | exact zHl_0 u0 rfl (by omega)) (by have h8_0 := i_rng l6_21; have h8_1 := i_rng x42; omega)
  exact ⟨(2147483648 : Int).toNat + 1, j_21   ((2147483648 : Int).toNat + 1) 0 x18 v_held  (by omega) (by omega) (by omega) (by first | exact hs9.1 | exact zHl_0 u0 rfl (by omega)) (by omega)⟩
set_option maxHeartbeats 4000000 in
theorem ok_X12_compile {p1 : Int32} {p2 : Int32} {v_sort : Nat → Int32} {v_value : Nat → Int32} {v_least : Nat → Int32} {v_most : Nat → Int32} {v_end : Nat → Int32} {v_act : Nat → Int32} {v_actA : Nat → Int32} {v_actB : Nat → Int32} {v_labelAt : Nat → Int32} {v_task : Nat → Int32} {v_taskA : Nat → Int32} {v_taskB : Nat → Int32} {v_held : Nat → Int32} {gZ : Int → Int} {gfi : Int} {v_holder : Nat → Int32} {v_parts : Nat → Int32} {v_firstPart : Nat → Int32} {v_partBegin : Nat → Int32} {v_partEnd : Nat → Int32} {v_acts : Int32} {v_labels : Int32} {v_tasks : Int32} {v_many : Nat → Int32} {v_captures : Nat → Int32} {Q : Int32 → Int32 → Int32 → (Nat → Int32) → (Nat → Int32) → (Nat → Int32) → (Nat → Int32) → (Nat → Int32) → (Nat → Int32) → (Nat → Int32) → (Nat → Int32) → Prop} (a0 : 0 ≤ p2.toInt) (a1 : p2.toInt ≤ 1) (a2 : 0 ≤ p1.toInt) (a3 : p1.toInt ≤ 5) (u0 : zSl v_sort v_value v_least v_most v_holder v_parts v_end v_firstPart v_partBegin v_partEnd (220 * p1.toInt) (420 * p1.toInt) (zg v_many p1.toInt) (zg v_captures p1.toInt)) (u1 : zZ v_sort v_least v_most v_end (220 * p1.toInt) (zg v_many p1.toInt) gfi gZ) (u2 : gZ 0 ≤ 220) (u3 : (gfi = 1 ∧ p2.toInt ≠ 0) ∨ (gfi = 0 ∧ p2.toInt = 0)) (u4 : gfi = 1 → zKb v_sort (220 * p1.toInt) (zg v_many p1.toInt) ∧ gZ 0 ≤ 200) (hq : ∀ (ov_acts : Int32) (ov_labels : Int32) (ov_tasks : Int32) (ov_act : Nat → Int32) (ov_actA : Nat → Int32) (ov_actB : Nat → Int32) (ov_labelAt : Nat → Int32) (ov_task : Nat → Int32) (ov_taskA : Nat → Int32) (ov_taskB : Nat → Int32) (ov_held : Nat → Int32), 0 ≤ ov_acts.toInt + 1 → 0 ≤ ov_acts.toInt → 0 ≤ ov_labels.toInt + 1 → 0 ≤ ov_labels.toInt → 0 ≤ ov_tasks.toInt + 1 → 0 ≤ ov_tasks.toInt → ov_acts.toInt ≤ 2700 → ov_tasks.toInt ≤ 0 → (zCo v_sort v_value ov_act ov_actA ov_actB ov_labelAt (220 * p1.toInt) (zg v_many p1.toInt) gfi ov_acts.toInt) → Q ov_acts ov_labels ov_tasks ov_act ov_actA ov_actB ov_labelAt ov_task ov_taskA ov_taskB ov_held) : w_X12_compile p1 p2 v_sort v_value v_least v_most v_end v_act v_actA v_actB v_labelAt v_task v_taskA v_taskB v_held Q := by
  have q_t : (bz true).toInt = 1 := rfl
  have q_f : (bz false).toInt = 0 := rfl
  have q_0 : (0 : Int32).toInt = 0 := rfl
  have q_19 : (19 : Int32).toInt = 19 := rfl
  have q_100 : (100 : Int32).toInt = 100 := rfl
  unfold w_X12_compile
  refine ok_X12_later (by omega) (by omega) (fun r20_0 r20_1 r20_2 r20_3 f1 u20_0 u20_1 u20_2 => ?_)
  refine ok_X12_later (by omega) (by omega) (fun r28_0 r28_1 r28_2 r28_3 f2 u28_0 u28_1 u28_2 => ?_)
  have j_31 : ∀ n_31 : Nat, ∀ (v_acts_31 : Int32) (v_labels_31 : Int32) (v_tasks_31 : Int32) (v_act_31 : Nat → Int32) (v_actA_31 : Nat → Int32) (v_actB_31 : Nat → Int32) (v_labelAt_31 : Nat → Int32) (v_task_31 : Nat → Int32) (v_taskA_31 : Nat → Int32) (v_taskB_31 : Nat → Int32) (v_held_31 : Nat → Int32) (gm_31 : Int), 0 ≤ v_tasks_31.toInt → 0 ≤ v_acts_31.toInt → 0 ≤ v_labels_31.toInt → v_acts_31.toInt ≤ 2700 → (zCS v_sort v_value v_end v_act_31 v_actA_31 v_actB_31 v_labelAt_31 v_task_31 v_taskA_31 v_taskB_31 gZ (220 * p1.toInt) (zg v_many p1.toInt) gfi v_acts_31.toInt v_labels_31.toInt v_tasks_31.toInt gm_31) → (gm_31).toNat < n_31 → w_X12_compile_31 p1 p2 v_sort v_value v_least v_most v_end Q n_31 v_acts_31 v_labels_31 v_tasks_31 v_act_31 v_actA_31 v_actB_31 v_labelAt_31 v_task_31 v_taskA_31 v_taskB_31 v_held_31 := by
    intro n_31
    induction n_31 with
    | zero =>
      intro v_acts_31 v_labels_31 v_tasks_31 v_act_31 v_actA_31 v_actB_31 v_labelAt_31 v_task_31 v_taskA_31 v_taskB_31 v_held_31 gm_31 f3 f4 f5 f6 u31_0 hm_31
      exfalso; omega
    | succ n_31 ih_31 =>
      intro v_acts_31 v_labels_31 v_tasks_31 v_act_31 v_actA_31 v_actB_31 v_labelAt_31 v_task_31 v_taskA_31 v_taskB_31 v_held_31 gm_31 f3 f4 f5 f6 u31_0 hm_31
      unfold w_X12_compile_31
      unfold w_X12_compile_31B
      refine ⟨fun c35 => ?_, fun c35 => ?_⟩
      · have f7 : v_tasks_31.toInt ≤ 0 := i_le (a := v_tasks_31.toInt) (b := 0) rfl rfl c35
        exact hq v_acts_31 v_labels_31 v_tasks_31 v_act_31 v_actA_31 v_actB_31 v_labelAt_31 v_task_31 v_taskA_31 v_taskB_31 v_held_31 (by omega) (by omega) (by omega) (by omega) (by omega) (by omega) (by omega) (by omega) (by exact zCS_e u31_0 (by omega))
      · have f8 : 0 < v_tasks_31.toInt := i_nle (a := v_tasks_31.toInt) (b := 0) rfl rfl c35
        have hb9 := zCS_b u31_0 u0 u1 (by omega)
        obtain ⟨hb1, hb2, hb3, hb4, hb5⟩ := hb9
        have f9 : (0 ≤ v_acts_31.toInt ∧ v_acts_31.toInt ≤ 2650) := by omega
        have f10 : (0 ≤ v_labels_31.toInt ∧ v_labels_31.toInt ≤ 2650) := by omega
        have f11 : v_tasks_31.toInt ≤ 2650 := by omega
        intro x44 ex44
        have f12 : x44.toInt = v_tasks_31.toInt - 1 := i_sub (a := v_tasks_31.toInt) (b := 1) ex44 rfl rfl (by omega) (by omega)
        refine ⟨i_in (by omega) (by omega), ?_⟩
        intro x56 ex56
        have h56 := zg_at2 (k := v_tasks_31.toInt - 1) ex56 (by omega)
        refine ⟨i_in (by omega) (by omega), ?_⟩
        intro x66 ex66
        have h66 := zg_at2 (k := v_tasks_31.toInt - 1) ex66 (by omega)
        have j_155 : ∀ (v_acts_155 : Int32) (v_labels_155 : Int32) (v_tasks_155 : Int32) (v_act_155 : Nat → Int32) (v_actA_155 : Nat → Int32) (v_actB_155 : Nat → Int32) (v_labelAt_155 : Nat → Int32) (v_task_155 : Nat → Int32) (v_taskA_155 : Nat → Int32) (v_taskB_155 : Nat → Int32) (v_held_155 : Nat → Int32), v_acts_31.toInt ≤ v_acts_155.toInt → v_acts_155.toInt ≤ v_acts_31.toInt + 1 → v_labels_31.toInt ≤ v_labels_155.toInt → v_tasks_31.toInt ≤ v_tasks_155.toInt + 1 → v_labels_155.toInt ≤ 2999 → v_tasks_155.toInt ≤ 5999 → (zCS v_sort v_value v_end v_act_155 v_actA_155 v_actB_155 v_labelAt_155 v_task_155 v_taskA_155 v_taskB_155 gZ (220 * p1.toInt) (zg v_many p1.toInt) gfi v_acts_155.toInt v_labels_155.toInt v_tasks_155.toInt (gm_31 - 1)) → w_X12_compile_155 Q (w_X12_compile_31 p1 p2 v_sort v_value v_least v_most v_end Q n_31) v_acts_155 v_labels_155 v_tasks_155 v_act_155 v_actA_155 v_actB_155 v_labelAt_155 v_task_155 v_taskA_155 v_taskB_155 v_held_155 := by
          intro v_acts_155 v_labels_155 v_tasks_155 v_act_155 v_actA_155 v_actB_155 v_labelAt_155 v_task_155 v_taskA_155 v_taskB_155 v_held_155 f13 f14 f15 f16 f17 f18 u155_0
          unfold w_X12_compile_155
          exact ih_31 v_acts_155 v_labels_155 v_tasks_155 v_act_155 v_actA_155 v_actB_155 v_labelAt_155 v_task_155 v_taskA_155 v_taskB_155 v_held_155 (gm_31 - 1) (by omega) (by omega) (by omega) (by omega) (by first | exact u155_0 | exact zCS_0 u0 u1 u20_0 u20_1 u20_2 u28_0 u28_1 u28_2 (by decide) (by decide) (by decide) (by decide) (by omega) (by omega) (by omega) rfl rfl u2 (fun z => (u4 z).2) rfl) (by omega)
        refine ⟨fun c72 => ?_, fun c72 => ?_⟩
        · have f19 : x56.toInt ≠ 100 := i_ne (a := x56.toInt) (b := 100) rfl rfl c72
          refine ⟨fun c89 => ?_, fun c89 => ?_⟩
          · have f20 : x56.toInt ≠ 101 := i_ne (a := x56.toInt) (b := 101) rfl rfl c89
            refine ⟨i_in (by omega) (by omega), ?_⟩
            intro g115 eg115
            refine ⟨i_in (by omega) (by omega), ?_⟩
            intro g126 eg126
            refine ⟨i_in (by omega) (by omega), ?_⟩
            intro x143 ex143
            have h143 := zg_at2 (k := v_tasks_31.toInt - 1) ex143 (by omega)
            refine ⟨i_in (by omega) (by omega), ?_⟩
            intro g144 eg144
            intro x151 ex151
            have f21 : x151.toInt = v_acts_31.toInt + 1 := i_add (a := v_acts_31.toInt) (b := 1) ex151 rfl rfl (by omega) (by omega)
            exact j_155 x151 v_labels_31 x44 g115 g126 g144 v_labelAt_31 v_task_31 v_taskA_31 v_taskB_31 v_held_31 (by omega) (by omega) (by omega) (by omega) (by omega) (by omega) (by first | exact zCS_w u80_0 hB1 hB2 u31_0.2.1 u31_0.2.2 rfl | exact zCS_l u31_0 u0 u1 eg102 (by omega) (by omega) h66 rfl (by omega) rfl | exact zCS_o u31_0 u0 u1 eg115 eg126 eg144 (by omega) (by omega) (by omega) (by omega) rfl h56 h66 h143 (by omega) (by omega) rfl)
          · have f22 : x56.toInt = 101 := i_eq (a := x56.toInt) (b := 101) rfl rfl c89
            have f23 : (0 ≤ x66.toInt ∧ x66.toInt ≤ 2999) := by have h9 := hb5 (by omega); omega
            refine ⟨i_in (by omega) (by omega), ?_⟩
            intro g102 eg102
            exact j_155 v_acts_31 v_labels_31 x44 v_act_31 v_actA_31 v_actB_31 g102 v_task_31 v_taskA_31 v_taskB_31 v_held_31 (by omega) (by omega) (by omega) (by omega) (by omega) (by omega) (by first | exact zCS_w u80_0 hB1 hB2 u31_0.2.1 u31_0.2.2 rfl | exact zCS_l u31_0 u0 u1 eg102 (by omega) (by omega) h66 rfl (by omega) rfl | exact zCS_o u31_0 u0 u1 eg115 eg126 eg144 (by omega) (by omega) (by omega) (by omega) rfl h56 h66 h143 (by omega) (by omega) rfl)
        · have f24 : x56.toInt = 100 := i_eq (a := x56.toInt) (b := 100) rfl rfl c72
          obtain ⟨C9, L9, s9, s08, t9, B19, B29, hND, hB1, hB2⟩ := zCS_n (k := x66.toInt) (m' := x44.toInt) u31_0 u0 u1 ⟨(by omega), fun z => (u4 z).1⟩ (by omega) (by omega) h66 (by omega)
          have f25 : (0 ≤ x66.toInt ∧ x66.toInt ≤ 219) := by have h9 := hND.2.2.2.2.1.1; have h8 := (zS_n u0).2; omega
          refine ok_X12_compileNode (gZ := gZ) (gC := C9) (gL := L9) (gsi := s9) (gs0 := s08) (gta := t9) (gbs := (220 * p1.toInt)) (gq9 := (420 * p1.toInt)) (gn9 := (zg v_many p1.toInt)) (gc9 := (zg v_captures p1.toInt)) (gfi := gfi) (gB1 := B19) (gB2 := B29) (v_holder := v_holder) (v_parts := v_parts) (v_firstPart := v_firstPart) (v_partBegin := v_partBegin) (v_partEnd := v_partEnd) (v_act := v_act_31) (v_actA := v_actA_31) (v_actB := v_actB_31) (v_labelAt := v_labelAt_31) (v_acts := v_acts_31) (by omega) (by omega) (by omega) (by omega) (by omega) (by omega) (by omega) (by omega) (by omega) (by omega) (by exact hND) (by exact rfl) (by exact u3) (fun r80_0 r80_1 r80_2 r80_3 r80_4 r80_5 f26 f27 f28 f29 u80_0 => ?_)
          exact j_155 v_acts_31 r80_0 r80_1 v_act_31 v_actA_31 v_actB_31 v_labelAt_31 r80_2 r80_3 r80_4 r80_5 (by omega) (by omega) (by omega) (by omega) (by omega) (by omega) (by first | exact zCS_w u80_0 hB1 hB2 u31_0.2.1 u31_0.2.2 rfl | exact zCS_l u31_0 u0 u1 eg102 (by omega) (by omega) h66 rfl (by omega) rfl | exact zCS_o u31_0 u0 u1 eg115 eg126 eg144 (by omega) (by omega) (by omega) (by omega) rfl h56 h66 h143 (by omega) (by omega) rfl)
  exact ⟨(((12 * gZ 0 - 3))).toNat + 1, j_31   ((((12 * gZ 0 - 3))).toNat + 1) 0 0 r28_0 v_act v_actA v_actB v_labelAt r28_1 r28_2 r28_3 v_held ((12 * gZ 0 - 3)) (by omega) (by omega) (by omega) (by omega) (by first | exact u155_0 | exact zCS_0 u0 u1 u20_0 u20_1 u20_2 u28_0 u28_1 u28_2 (by decide) (by decide) (by decide) (by decide) (by omega) (by omega) (by omega) rfl rfl u2 (fun z => (u4 z).2) rfl) (by omega)⟩
