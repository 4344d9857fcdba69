set_option maxHeartbeats 4000000 in
theorem ok_X12_compare {p1 : Int32} {p2 : Int32} {v_finding : Int32} {v_boundMany : Int32} {v_acts : Int32} {v_labels : Int32} {v_tasks : Int32} {v_eaters : Int32} {v_reached : Int64} {v_reachesEnd : Bool} {v_pairs : Int32} {v_sorts : Int32} {v_isThere : Nat → Bool} {v_many : Nat → Int32} {v_sort : Nat → Int32} {v_value : Nat → Int32} {v_least : Nat → Int32} {v_most : Nat → Int32} {v_parts : Nat → Int32} {v_end : Nat → Int32} {v_size : Nat → Int32} {v_positions : Nat → Int32} {v_firstPart : Nat → Int32} {v_mayEmpty : Nat → Bool} {v_inCase : Nat → Bool} {v_partBegin : Nat → Int32} {v_partEnd : Nat → Int32} {v_isBound : Nat → Bool} {v_bounds : Nat → Int32} {v_act : Nat → Int32} {v_actA : Nat → Int32} {v_actB : Nat → Int32} {v_labelAt : Nat → Int32} {v_task : Nat → Int32} {v_taskA : Nat → Int32} {v_taskB : Nat → Int32} {v_held : Nat → Int32} {v_follows : Nat → Int64} {v_endsAfter : Nat → Bool} {v_eaterOf : Nat → Int32} {v_eaterNode : Nat → Int32} {v_isGone : Nat → Bool} {v_walk : Nat → Int32} {v_states : Nat → Int32} {v_stateSet : Nat → Int64} {v_isTaken : Nat → Bool} {v_classes : Nat → Int32} {v_classTakes : Nat → Int64} {v_classOf : Nat → Int32} {v_leads : Nat → Int32} {v_pairA : Nat → Int32} {v_pairB : Nat → Int32} {v_pairFrom : Nat → Int32} {v_pairSign : Nat → Int32} {v_isPair : Nat → Bool} {v_sortA : Nat → Int32} {v_sortB : Nat → Int32} {v_sortSign : Nat → Int32} {v_captures : Nat → Int32} {v_holder : Nat → Int32} {Q : Int32 → Int32 → Int32 → Int32 → Int32 → Int32 → Int32 → Int32 → Int64 → Bool → Int32 → Int32 → (Nat → Bool) → (Nat → Int32) → (Nat → Int32) → (Nat → Int32) → (Nat → Int32) → (Nat → Int32) → (Nat → Int32) → (Nat → Int32) → (Nat → Int32) → (Nat → Int32) → (Nat → Int64) → (Nat → Bool) → (Nat → Int32) → (Nat → Int32) → (Nat → Bool) → (Nat → Int32) → (Nat → Int32) → (Nat → Int64) → (Nat → Bool) → (Nat → Int32) → (Nat → Int64) → (Nat → Int32) → (Nat → Int32) → (Nat → Int32) → (Nat → Int32) → (Nat → Int32) → (Nat → Int32) → (Nat → Bool) → (Nat → Int32) → (Nat → Int32) → (Nat → Int32) → Prop} (a0 : 0 ≤ v_boundMany.toInt) (a1 : v_boundMany.toInt ≤ 3000) (b0 : rp (fun k v => 0 ≤ v ∧ v ≤ 65535) v_bounds 0 v_boundMany.toInt) (b1 : rp (fun k v => 0 ≤ v ∧ v ≤ 59) v_pairA 0 v_pairs.toInt) (b2 : rp (fun k v => 0 ≤ v ∧ v ≤ 59) v_pairB 0 v_pairs.toInt) (b3 : rp (fun k v => v < k ∧ -1 ≤ v) v_pairFrom 0 v_pairs.toInt) (u0 : zAll v_isThere v_many v_captures v_sort v_value v_least v_most v_holder v_parts v_end v_firstPart v_partBegin v_partEnd v_size v_positions) (u1 : zNo v_isBound) (hq : ∀ (r : Int32) (ov_thrown : Int32) (ov_finding : Int32) (ov_boundMany : Int32) (ov_acts : Int32) (ov_labels : Int32) (ov_tasks : Int32) (ov_eaters : Int32) (ov_reached : Int64) (ov_reachesEnd : Bool) (ov_pairs : Int32) (ov_sorts : Int32) (ov_isBound : Nat → Bool) (ov_bounds : Nat → Int32) (ov_act : Nat → Int32) (ov_actA : Nat → Int32) (ov_actB : Nat → Int32) (ov_labelAt : Nat → Int32) (ov_task : Nat → Int32) (ov_taskA : Nat → Int32) (ov_taskB : Nat → Int32) (ov_held : Nat → Int32) (ov_follows : Nat → Int64) (ov_endsAfter : Nat → Bool) (ov_eaterOf : Nat → Int32) (ov_eaterNode : Nat → Int32) (ov_isGone : Nat → Bool) (ov_walk : Nat → Int32) (ov_states : Nat → Int32) (ov_stateSet : Nat → Int64) (ov_isTaken : Nat → Bool) (ov_classes : Nat → Int32) (ov_classTakes : Nat → Int64) (ov_classOf : Nat → Int32) (ov_leads : Nat → Int32) (ov_pairA : Nat → Int32) (ov_pairB : Nat → Int32) (ov_pairFrom : Nat → Int32) (ov_pairSign : Nat → Int32) (ov_isPair : Nat → Bool) (ov_sortA : Nat → Int32) (ov_sortB : Nat → Int32) (ov_sortSign : Nat → Int32), ov_thrown.toInt = 0 → 0 ≤ r.toInt + 7 → r.toInt ≤ 3 → 0 ≤ ov_boundMany.toInt → ov_boundMany.toInt ≤ 3000 → rp (fun k v => 0 ≤ v ∧ v ≤ 59) ov_pairA 0 ov_pairs.toInt → rp (fun k v => 0 ≤ v ∧ v ≤ 59) ov_pairA ov_thrown.toInt ov_pairs.toInt → rp (fun k v => 0 ≤ v ∧ v ≤ 59) ov_pairB 0 ov_pairs.toInt → rp (fun k v => 0 ≤ v ∧ v ≤ 59) ov_pairB ov_thrown.toInt ov_pairs.toInt → rp (fun k v => v < k ∧ -1 ≤ v) ov_pairFrom 0 ov_pairs.toInt → rp (fun k v => v < k ∧ -1 ≤ v) ov_pairFrom ov_thrown.toInt ov_pairs.toInt → rp (fun k v => 0 ≤ v ∧ v ≤ 65535) ov_bounds 0 ov_boundMany.toInt → rp (fun k v => 0 ≤ v ∧ v ≤ 65535) ov_bounds ov_thrown.toInt ov_boundMany.toInt → rp (fun k v => 0 ≤ v ∧ v ≤ 59) ov_pairA 0 0 → rp (fun k v => 0 ≤ v ∧ v ≤ 59) ov_pairA 0 ov_thrown.toInt → rp (fun k v => 0 ≤ v ∧ v ≤ 59) ov_pairA ov_thrown.toInt 0 → rp (fun k v => 0 ≤ v ∧ v ≤ 59) ov_pairA ov_thrown.toInt ov_thrown.toInt → rp (fun k v => 0 ≤ v ∧ v ≤ 59) ov_pairB 0 0 → rp (fun k v => 0 ≤ v ∧ v ≤ 59) ov_pairB 0 ov_thrown.toInt → rp (fun k v => 0 ≤ v ∧ v ≤ 59) ov_pairB ov_thrown.toInt 0 → rp (fun k v => 0 ≤ v ∧ v ≤ 59) ov_pairB ov_thrown.toInt ov_thrown.toInt → rp (fun k v => v < k ∧ -1 ≤ v) ov_pairFrom 0 0 → rp (fun k v => v < k ∧ -1 ≤ v) ov_pairFrom 0 ov_thrown.toInt → rp (fun k v => v < k ∧ -1 ≤ v) ov_pairFrom ov_thrown.toInt 0 → rp (fun k v => v < k ∧ -1 ≤ v) ov_pairFrom ov_thrown.toInt ov_thrown.toInt → (zNo ov_isBound) → Q r ov_thrown ov_finding ov_boundMany ov_acts ov_labels ov_tasks ov_eaters ov_reached ov_reachesEnd ov_pairs ov_sorts ov_isBound ov_bounds ov_act ov_actA ov_actB ov_labelAt ov_task ov_taskA ov_taskB ov_held ov_follows ov_endsAfter ov_eaterOf ov_eaterNode ov_isGone ov_walk ov_states ov_stateSet ov_isTaken ov_classes ov_classTakes ov_classOf ov_leads ov_pairA ov_pairB ov_pairFrom ov_pairSign ov_isPair ov_sortA ov_sortB ov_sortSign) : w_X12_compare p1 p2 v_finding v_boundMany v_acts v_labels v_tasks v_eaters v_reached v_reachesEnd v_pairs v_sorts v_isThere v_many v_sort v_value v_least v_most v_parts v_end v_size v_positions v_firstPart v_mayEmpty v_inCase v_partBegin v_partEnd v_isBound v_bounds v_act v_actA v_actB v_labelAt v_task v_taskA v_taskB v_held v_follows v_endsAfter v_eaterOf v_eaterNode v_isGone v_walk v_states v_stateSet v_isTaken v_classes v_classTakes v_classOf v_leads v_pairA v_pairB v_pairFrom v_pairSign v_isPair v_sortA v_sortB v_sortSign Q := by
  have q_t : (bz true).toInt = 1 := rfl
  have q_f : (bz false).toInt = 0 := rfl
  have q_m2 : ((-2) : Int32).toInt = (-2) := rfl
  have q_0 : (0 : Int32).toInt = 0 := rfl
  have q_1 : (1 : Int32).toInt = 1 := rfl
  have q_2 : (2 : Int32).toInt = 2 := rfl
  unfold w_X12_compare
  refine ok_X12_wrongSlot  (fun r7 r7_0 f1 f2 f3 u7_0 => ?_)
  have j_21 : ∀ (v_finding_21 : Int32), ((v_finding_21.toInt = r7_0.toInt) ∨ (r7.toInt = 0)) → (True) → w_X12_compare_21 Q 0 v_finding_21 v_boundMany v_acts v_labels v_tasks v_eaters v_reached v_reachesEnd v_pairs v_sorts v_isBound v_bounds v_act v_actA v_actB v_labelAt v_task v_taskA v_taskB v_held v_follows v_endsAfter v_eaterOf v_eaterNode v_isGone v_walk v_states v_stateSet v_isTaken v_classes v_classTakes v_classOf v_leads v_pairA v_pairB v_pairFrom v_pairSign v_isPair v_sortA v_sortB v_sortSign := by
    intro v_finding_21 f4 u21_0
    unfold w_X12_compare_21
    exact hq (-2) 0 v_finding_21 v_boundMany v_acts v_labels v_tasks v_eaters v_reached v_reachesEnd v_pairs v_sorts v_isBound v_bounds v_act v_actA v_actB v_labelAt v_task v_taskA v_taskB v_held v_follows v_endsAfter v_eaterOf v_eaterNode v_isGone v_walk v_states v_stateSet v_isTaken v_classes v_classTakes v_classOf v_leads v_pairA v_pairB v_pairFrom v_pairSign v_isPair v_sortA v_sortB v_sortSign (by omega) (by omega) (by omega) (by omega) (by omega) (rp_mono b1 (by omega) (by omega)) (rp_mono b1 (by omega) (by omega)) (rp_mono b2 (by omega) (by omega)) (rp_mono b2 (by omega) (by omega)) (rp_mono b3 (by omega) (by omega)) (rp_mono b3 (by omega) (by omega)) (rp_mono b0 (by omega) (by omega)) (rp_mono b0 (by omega) (by omega)) (rp_nil (by omega)) (rp_nil (by omega)) (rp_nil (by omega)) (rp_nil (by omega)) (rp_nil (by omega)) (rp_nil (by omega)) (rp_nil (by omega)) (rp_nil (by omega)) (rp_nil (by omega)) (rp_nil (by omega)) (rp_nil (by omega)) (rp_nil (by omega)) (by exact u1)
  refine ⟨fun c10 => ?_, fun c10 => ?_⟩
  · have f5 : r7.toInt ≠ 0 := i_ne (a := r7.toInt) (b := 0) rfl rfl c10
    exact j_21 r7_0 (by omega) (by trivial)
  · have f6 : r7.toInt = 0 := i_eq (a := r7.toInt) (b := 0) rfl rfl c10
    refine ok_X12_wrongSlot  (fun r15 r15_0 f7 f8 f9 u15_0 => ?_)
    refine ⟨fun c18 => ?_, fun c18 => ?_⟩
    · have f10 : r15.toInt = 0 := i_eq (a := r15.toInt) (b := 0) rfl rfl c18
      have hSA := zAll_s u0 (u7_0 (by omega)) (by omega) (by omega)
      have hSB := zAll_s u0 (u15_0 (by omega)) (by omega) (by omega)
      have f11 : 0 ≤ p1.toInt := by omega
      have f12 : p1.toInt ≤ 5 := by omega
      have f13 : 0 ≤ p2.toInt := by omega
      have f14 : p2.toInt ≤ 5 := by omega
      refine ok_X12_bothBars (v_holder := v_holder) (v_captures := v_captures) (by omega) (by omega) (by omega) (by omega) (by omega) (by omega) (rp_mono b0 (by omega) (by omega)) (by exact hSA.1) (by exact hSA.2) (by exact hSB.1) (by exact hSB.2) (by exact u1) (fun r27 r27_0 r27_1 r27_2 r27_3 r27_4 r27_5 r27_6 r27_7 r27_8 r27_9 r27_10 r27_11 r27_12 r27_13 r27_14 r27_15 r27_16 r27_17 r27_18 r27_19 r27_20 r27_21 r27_22 r27_23 r27_24 r27_25 r27_26 r27_27 r27_28 r27_29 r27_30 r27_31 r27_32 r27_33 f15 f16 f17 f18 h19 u27_0 u27_1 => ?_)
      refine ⟨fun c32 => ?_, fun c32 => ?_⟩
      · have f20 : r27.toInt = 0 := i_eq (a := r27.toInt) (b := 0) rfl rfl c32
        obtain ⟨hT0, hT1, hSo, hso, hbm⟩ := u27_1 (by omega)
        obtain ⟨P9, hP9⟩ : ∃ P9 : Nat, (P9 : Int) = 3800 := ⟨3800, rfl⟩
        have f21 : 0 ≤ r27_7.toInt := hso.1
        have f22 : r27_7.toInt ≤ 260 := hso.2
        refine ok_X12_findPairs (v_states := r27_24) (v_classes := r27_27) (v_classOf := r27_29) (gP9 := P9) (gbm9 := r27_0.toInt) (by omega) (by omega) (rp_mono b1 (by omega) (by omega)) (rp_mono b2 (by omega) (by omega)) (rp_mono b3 (by omega) (by omega)) (by exact hT0) (by exact hT1) (by exact hSo) (by exact hP9) (fun r38_0 r38_1 r38_2 r38_3 r38_4 r38_5 f23 f24 f25 f26 f27 f28 h29 h30 h31 h32 h33 h34 u38_0 => ?_)
        have j_50 : ∀ n_50 : Nat, ∀ (l4_50 : Int32) (l5_50 : Int32) (l6_50 : Int32), 0 ≤ l6_50.toInt → l6_50.toInt ≤ r38_0.toInt → 0 ≤ l4_50.toInt → l4_50.toInt ≤ 1 → 0 ≤ l5_50.toInt → l5_50.toInt ≤ 1 → ((-1) * l6_50.toInt + 2147483648).toNat < n_50 → w_X12_compare_50 Q 0 r15_0 r27_0 r27_1 r27_2 r27_3 r27_4 r27_5 r27_6 r38_0 r27_7 r27_8 r27_9 r27_10 r27_11 r27_12 r27_13 r27_14 r27_15 r27_16 r27_17 r27_18 r27_19 r27_20 r27_21 r27_22 r27_23 r27_24 r27_25 r27_26 r27_27 r27_28 r27_29 r27_30 r38_1 r38_2 r38_3 r38_4 r38_5 r27_31 r27_32 r27_33 n_50 l4_50 l5_50 l6_50 := by
          intro n_50
          induction n_50 with
          | zero =>
            intro l4_50 l5_50 l6_50 f35 f36 f37 f38 f39 f40 hm_50
            exfalso; omega
          | succ n_50 ih_50 =>
            intro l4_50 l5_50 l6_50 f35 f36 f37 f38 f39 f40 hm_50
            unfold w_X12_compare_50
            unfold w_X12_compare_50B
            refine ⟨fun c56 => ?_, fun c56 => ?_⟩
            · have f41 : r38_0.toInt ≤ l6_50.toInt := i_le (a := r38_0.toInt) (b := l6_50.toInt) rfl rfl c56
              have j_150 : ∀ (s0_150 : Int32), ((s0_150.toInt = 0 ∧ l4_50.toInt = 0) ∨ (s0_150.toInt = 1)) → w_X12_compare_150 Q s0_150 l5_50 0 r15_0 r27_0 r27_1 r27_2 r27_3 r27_4 r27_5 r27_6 r38_0 r27_7 r27_8 r27_9 r27_10 r27_11 r27_12 r27_13 r27_14 r27_15 r27_16 r27_17 r27_18 r27_19 r27_20 r27_21 r27_22 r27_23 r27_24 r27_25 r27_26 r27_27 r27_28 r27_29 r27_30 r38_1 r38_2 r38_3 r38_4 r38_5 r27_31 r27_32 r27_33 := by
                intro s0_150 f42
                unfold w_X12_compare_150
                have j_160 : ∀ (s0_160 : Int32), ((s0_160.toInt = 0 ∧ l5_50.toInt = 0) ∨ (s0_160.toInt = 2)) → w_X12_compare_160 Q s0_160 s0_150 0 r15_0 r27_0 r27_1 r27_2 r27_3 r27_4 r27_5 r27_6 r38_0 r27_7 r27_8 r27_9 r27_10 r27_11 r27_12 r27_13 r27_14 r27_15 r27_16 r27_17 r27_18 r27_19 r27_20 r27_21 r27_22 r27_23 r27_24 r27_25 r27_26 r27_27 r27_28 r27_29 r27_30 r38_1 r38_2 r38_3 r38_4 r38_5 r27_31 r27_32 r27_33 := by
                  intro s0_160 f43
                  unfold w_X12_compare_160
                  intro x160 ex160
                  have f44 : x160.toInt = s0_150.toInt + s0_160.toInt := i_add (a := s0_150.toInt) (b := s0_160.toInt) ex160 rfl rfl (by omega) (by omega)
                  exact hq x160 0 r15_0 r27_0 r27_1 r27_2 r27_3 r27_4 r27_5 r27_6 r38_0 r27_7 r27_8 r27_9 r27_10 r27_11 r27_12 r27_13 r27_14 r27_15 r27_16 r27_17 r27_18 r27_19 r27_20 r27_21 r27_22 r27_23 r27_24 r27_25 r27_26 r27_27 r27_28 r27_29 r27_30 r38_1 r38_2 r38_3 r38_4 r38_5 r27_31 r27_32 r27_33 (by omega) (by omega) (by omega) (by omega) (by omega) (rp_mono h30 (by omega) (by omega)) (rp_mono h30 (by omega) (by omega)) (rp_mono h32 (by omega) (by omega)) (rp_mono h32 (by omega) (by omega)) (rp_mono h34 (by omega) (by omega)) (rp_mono h34 (by omega) (by omega)) (rp_mono h19 (by omega) (by omega)) (rp_mono h19 (by omega) (by omega)) (rp_mono h30 (by omega) (by omega)) (rp_mono h30 (by omega) (by omega)) (rp_mono h30 (by omega) (by omega)) (rp_mono h30 (by omega) (by omega)) (rp_mono h32 (by omega) (by omega)) (rp_mono h32 (by omega) (by omega)) (rp_mono h32 (by omega) (by omega)) (rp_mono h32 (by omega) (by omega)) (rp_mono h34 (by omega) (by omega)) (rp_mono h34 (by omega) (by omega)) (rp_mono h34 (by omega) (by omega)) (rp_mono h34 (by omega) (by omega)) (by exact u27_0)
                refine ⟨fun c152 => ?_, fun c152 => ?_⟩
                · have f45 : l5_50.toInt = 0 := i_eq (a := l5_50.toInt) (b := 0) rfl rfl c152
                  exact j_160 0 (by omega)
                · have f46 : l5_50.toInt ≠ 0 := i_ne (a := l5_50.toInt) (b := 0) rfl rfl c152
                  exact j_160 2 (by omega)
              refine ⟨fun c142 => ?_, fun c142 => ?_⟩
              · have f47 : l4_50.toInt = 0 := i_eq (a := l4_50.toInt) (b := 0) rfl rfl c142
                exact j_150 0 (by omega)
              · have f48 : l4_50.toInt ≠ 0 := i_ne (a := l4_50.toInt) (b := 0) rfl rfl c142
                exact j_150 1 (by omega)
            · have f49 : l6_50.toInt < r38_0.toInt := i_nle (a := r38_0.toInt) (b := l6_50.toInt) rfl rfl c56
              have j_93 : ∀ (s0_93 : Int32), ((s0_93.toInt = 1) ∨ (s0_93.toInt = 0)) → w_X12_compare_93 r27_26 r38_1 r38_2 Q (w_X12_compare_50 Q 0 r15_0 r27_0 r27_1 r27_2 r27_3 r27_4 r27_5 r27_6 r38_0 r27_7 r27_8 r27_9 r27_10 r27_11 r27_12 r27_13 r27_14 r27_15 r27_16 r27_17 r27_18 r27_19 r27_20 r27_21 r27_22 r27_23 r27_24 r27_25 r27_26 r27_27 r27_28 r27_29 r27_30 r38_1 r38_2 r38_3 r38_4 r38_5 r27_31 r27_32 r27_33 n_50) s0_93 l5_50 l6_50 := by
                intro s0_93 f50
                unfold w_X12_compare_93
                have j_132 : ∀ (s0_132 : Int32), ((s0_132.toInt = 1) ∨ (s0_132.toInt = 0)) → w_X12_compare_132 Q (w_X12_compare_50 Q 0 r15_0 r27_0 r27_1 r27_2 r27_3 r27_4 r27_5 r27_6 r38_0 r27_7 r27_8 r27_9 r27_10 r27_11 r27_12 r27_13 r27_14 r27_15 r27_16 r27_17 r27_18 r27_19 r27_20 r27_21 r27_22 r27_23 r27_24 r27_25 r27_26 r27_27 r27_28 r27_29 r27_30 r38_1 r38_2 r38_3 r38_4 r38_5 r27_31 r27_32 r27_33 n_50) s0_132 s0_93 l6_50 := by
                  intro s0_132 f51
                  unfold w_X12_compare_132
                  intro x134 ex134
                  have f52 : x134.toInt = l6_50.toInt + 1 := i_add (a := l6_50.toInt) (b := 1) ex134 rfl rfl (by omega) (by omega)
                  exact ih_50 s0_93 s0_132 x134  (by omega) (by omega) (by omega) (by omega) (by omega) (by omega) (by have h8_0 := i_rng l6_50; have h8_1 := i_rng x134; omega)
                have j_131 : (True) → w_X12_compare_131 Q (w_X12_compare_50 Q 0 r15_0 r27_0 r27_1 r27_2 r27_3 r27_4 r27_5 r27_6 r38_0 r27_7 r27_8 r27_9 r27_10 r27_11 r27_12 r27_13 r27_14 r27_15 r27_16 r27_17 r27_18 r27_19 r27_20 r27_21 r27_22 r27_23 r27_24 r27_25 r27_26 r27_27 r27_28 r27_29 r27_30 r38_1 r38_2 r38_3 r38_4 r38_5 r27_31 r27_32 r27_33 n_50) s0_93 l6_50 := by
                  intro u131_0
                  unfold w_X12_compare_131
                  exact j_132 0 (by omega)
                refine ⟨fun c97 => ?_, fun c97 => ?_⟩
                · have f53 : l5_50.toInt = 0 := i_eq (a := l5_50.toInt) (b := 0) rfl rfl c97
                  exact j_131  (by trivial)
                · have f54 : l5_50.toInt ≠ 0 := i_ne (a := l5_50.toInt) (b := 0) rfl rfl c97
                  refine ok_X12_isParted (v_pairs := r38_0) (by omega) (by omega) (by omega) (by omega) (rp_mono h30 (by omega) (by omega)) (rp_mono h32 (by omega) (by omega)) (fun r103 f55 f56 => ?_)
                  have j_127 : (True) → w_X12_compare_127 Q (w_X12_compare_50 Q 0 r15_0 r27_0 r27_1 r27_2 r27_3 r27_4 r27_5 r27_6 r38_0 r27_7 r27_8 r27_9 r27_10 r27_11 r27_12 r27_13 r27_14 r27_15 r27_16 r27_17 r27_18 r27_19 r27_20 r27_21 r27_22 r27_23 r27_24 r27_25 r27_26 r27_27 r27_28 r27_29 r27_30 r38_1 r38_2 r38_3 r38_4 r38_5 r27_31 r27_32 r27_33 n_50) s0_93 l6_50 := by
                    intro u127_0
                    unfold w_X12_compare_127
                    exact j_132 1 (by omega)
                  refine ⟨fun c106 => ?_, fun c106 => ?_⟩
                  · have f57 : r103.toInt = 0 := i_eq (a := r103.toInt) (b := 0) rfl rfl c106
                    exact j_127  (by trivial)
                  · have f58 : r103.toInt ≠ 0 := i_ne (a := r103.toInt) (b := 0) rfl rfl c106
                    refine ⟨i_in (by omega) (by omega), ?_⟩
                    intro x121 ex121
                    have f59 : 0 ≤ x121.toInt ∧ x121.toInt ≤ 59 := by have h9 := rp_get (P := (fun k v => 0 ≤ v ∧ v ≤ 59)) (a := l6_50.toInt) h32 ex121 rfl (by omega) (by omega) (by omega); omega
                    intro x122 ex122
                    have f60 : x122.toInt = 61 + x121.toInt := i_add (a := 61) (b := x121.toInt) ex122 rfl rfl (by omega) (by omega)
                    refine ⟨i_in (by omega) (by omega), ?_⟩
                    intro x123 ex123
                    have f61 : (0 ≤ x123.toInt ∧ x123.toInt ≤ 1) := i_bz ex123
                    refine ⟨fun c124 => ?_, fun c124 => ?_⟩
                    · have f62 : x123.toInt ≠ 0 := i_ne (a := x123.toInt) (b := 0) rfl rfl c124
                      exact j_131  (by trivial)
                    · have f63 : x123.toInt = 0 := i_eq (a := x123.toInt) (b := 0) rfl rfl c124
                      exact j_127  (by trivial)
              have j_92 : (True) → w_X12_compare_92 r27_26 r38_1 r38_2 Q (w_X12_compare_50 Q 0 r15_0 r27_0 r27_1 r27_2 r27_3 r27_4 r27_5 r27_6 r38_0 r27_7 r27_8 r27_9 r27_10 r27_11 r27_12 r27_13 r27_14 r27_15 r27_16 r27_17 r27_18 r27_19 r27_20 r27_21 r27_22 r27_23 r27_24 r27_25 r27_26 r27_27 r27_28 r27_29 r27_30 r38_1 r38_2 r38_3 r38_4 r38_5 r27_31 r27_32 r27_33 n_50) l5_50 l6_50 := by
                intro u92_0
                unfold w_X12_compare_92
                exact j_93 0 (by omega)
              refine ⟨fun c61 => ?_, fun c61 => ?_⟩
              · have f64 : l4_50.toInt = 0 := i_eq (a := l4_50.toInt) (b := 0) rfl rfl c61
                exact j_92  (by trivial)
              · have f65 : l4_50.toInt ≠ 0 := i_ne (a := l4_50.toInt) (b := 0) rfl rfl c61
                refine ok_X12_isParted (v_pairs := r38_0) (by omega) (by omega) (by omega) (by omega) (rp_mono h30 (by omega) (by omega)) (rp_mono h32 (by omega) (by omega)) (fun r67 f66 f67 => ?_)
                have j_88 : (True) → w_X12_compare_88 r27_26 r38_1 r38_2 Q (w_X12_compare_50 Q 0 r15_0 r27_0 r27_1 r27_2 r27_3 r27_4 r27_5 r27_6 r38_0 r27_7 r27_8 r27_9 r27_10 r27_11 r27_12 r27_13 r27_14 r27_15 r27_16 r27_17 r27_18 r27_19 r27_20 r27_21 r27_22 r27_23 r27_24 r27_25 r27_26 r27_27 r27_28 r27_29 r27_30 r38_1 r38_2 r38_3 r38_4 r38_5 r27_31 r27_32 r27_33 n_50) l5_50 l6_50 := by
                  intro u88_0
                  unfold w_X12_compare_88
                  exact j_93 1 (by omega)
                refine ⟨fun c70 => ?_, fun c70 => ?_⟩
                · have f68 : r67.toInt = 0 := i_eq (a := r67.toInt) (b := 0) rfl rfl c70
                  exact j_88  (by trivial)
                · have f69 : r67.toInt ≠ 0 := i_ne (a := r67.toInt) (b := 0) rfl rfl c70
                  refine ⟨i_in (by omega) (by omega), ?_⟩
                  intro x83 ex83
                  have f70 : 0 ≤ x83.toInt ∧ x83.toInt ≤ 59 := by have h9 := rp_get (P := (fun k v => 0 ≤ v ∧ v ≤ 59)) (a := l6_50.toInt) h30 ex83 rfl (by omega) (by omega) (by omega); omega
                  refine ⟨i_in (by omega) (by omega), ?_⟩
                  intro x84 ex84
                  have f71 : (0 ≤ x84.toInt ∧ x84.toInt ≤ 1) := i_bz ex84
                  refine ⟨fun c85 => ?_, fun c85 => ?_⟩
                  · have f72 : x84.toInt ≠ 0 := i_ne (a := x84.toInt) (b := 0) rfl rfl c85
                    exact j_92  (by trivial)
                  · have f73 : x84.toInt = 0 := i_eq (a := x84.toInt) (b := 0) rfl rfl c85
                    exact j_88  (by trivial)
        exact ⟨(2147483648 : Int).toNat + 1, j_50   ((2147483648 : Int).toNat + 1) 1 1 0  (by omega) (by omega) (by omega) (by omega) (by omega) (by omega) (by omega)⟩
      · have f74 : r27.toInt ≠ 0 := i_ne (a := r27.toInt) (b := 0) rfl rfl c32
        exact hq r27 0 r15_0 r27_0 r27_1 r27_2 r27_3 r27_4 r27_5 r27_6 v_pairs r27_7 r27_8 r27_9 r27_10 r27_11 r27_12 r27_13 r27_14 r27_15 r27_16 r27_17 r27_18 r27_19 r27_20 r27_21 r27_22 r27_23 r27_24 r27_25 r27_26 r27_27 r27_28 r27_29 r27_30 v_pairA v_pairB v_pairFrom v_pairSign v_isPair r27_31 r27_32 r27_33 (by omega) (by omega) (by omega) (by omega) (by omega) (rp_mono b1 (by omega) (by omega)) (rp_mono b1 (by omega) (by omega)) (rp_mono b2 (by omega) (by omega)) (rp_mono b2 (by omega) (by omega)) (rp_mono b3 (by omega) (by omega)) (rp_mono b3 (by omega) (by omega)) (rp_mono h19 (by omega) (by omega)) (rp_mono h19 (by omega) (by omega)) (rp_nil (by omega)) (rp_nil (by omega)) (rp_nil (by omega)) (rp_nil (by omega)) (rp_nil (by omega)) (rp_nil (by omega)) (rp_nil (by omega)) (rp_nil (by omega)) (rp_nil (by omega)) (rp_nil (by omega)) (rp_nil (by omega)) (rp_nil (by omega)) (by exact u27_0)
    · have f75 : r15.toInt ≠ 0 := i_ne (a := r15.toInt) (b := 0) rfl rfl c18
      exact j_21 r15_0 (by omega) (by trivial)
set_option maxHeartbeats 4000000 in
theorem ok_X12_parting {p1 : Int32} {p2 : Int32} {v_finding : Int32} {v_outMany : Int32} {v_outNumbers : Bool} {v_boundMany : Int32} {v_acts : Int32} {v_labels : Int32} {v_tasks : Int32} {v_eaters : Int32} {v_reached : Int64} {v_reachesEnd : Bool} {v_pairs : Int32} {v_sorts : Int32} {v_isThere : Nat → Bool} {v_many : Nat → Int32} {v_sort : Nat → Int32} {v_value : Nat → Int32} {v_least : Nat → Int32} {v_most : Nat → Int32} {v_parts : Nat → Int32} {v_end : Nat → Int32} {v_size : Nat → Int32} {v_positions : Nat → Int32} {v_firstPart : Nat → Int32} {v_mayEmpty : Nat → Bool} {v_inCase : Nat → Bool} {v_partBegin : Nat → Int32} {v_partEnd : Nat → Int32} {v_out : Nat → Int32} {v_isBound : Nat → Bool} {v_bounds : Nat → Int32} {v_act : Nat → Int32} {v_actA : Nat → Int32} {v_actB : Nat → Int32} {v_labelAt : Nat → Int32} {v_task : Nat → Int32} {v_taskA : Nat → Int32} {v_taskB : Nat → Int32} {v_held : Nat → Int32} {v_follows : Nat → Int64} {v_endsAfter : Nat → Bool} {v_eaterOf : Nat → Int32} {v_eaterNode : Nat → Int32} {v_isGone : Nat → Bool} {v_walk : Nat → Int32} {v_states : Nat → Int32} {v_stateSet : Nat → Int64} {v_isTaken : Nat → Bool} {v_classes : Nat → Int32} {v_classTakes : Nat → Int64} {v_classOf : Nat → Int32} {v_leads : Nat → Int32} {v_pairA : Nat → Int32} {v_pairB : Nat → Int32} {v_pairFrom : Nat → Int32} {v_pairSign : Nat → Int32} {v_isPair : Nat → Bool} {v_sortA : Nat → Int32} {v_sortB : Nat → Int32} {v_sortSign : Nat → Int32} {v_captures : Nat → Int32} {v_holder : Nat → Int32} {Q : Int32 → Int32 → Int32 → Int32 → Bool → Int32 → Int32 → Int32 → Int32 → Int32 → Int64 → Bool → Int32 → Int32 → (Nat → Int32) → (Nat → Bool) → (Nat → Int32) → (Nat → Int32) → (Nat → Int32) → (Nat → Int32) → (Nat → Int32) → (Nat → Int32) → (Nat → Int32) → (Nat → Int32) → (Nat → Int32) → (Nat → Int64) → (Nat → Bool) → (Nat → Int32) → (Nat → Int32) → (Nat → Bool) → (Nat → Int32) → (Nat → Int32) → (Nat → Int64) → (Nat → Bool) → (Nat → Int32) → (Nat → Int64) → (Nat → Int32) → (Nat → Int32) → (Nat → Int32) → (Nat → Int32) → (Nat → Int32) → (Nat → Int32) → (Nat → Bool) → (Nat → Int32) → (Nat → Int32) → (Nat → Int32) → Prop} (a0 : 0 ≤ v_boundMany.toInt) (a1 : v_boundMany.toInt ≤ 3000) (a2 : 0 ≤ v_outMany.toInt) (a3 : v_outMany.toInt ≤ 400) (b0 : rp (fun k v => 0 ≤ v ∧ v ≤ 65535) v_bounds 0 v_boundMany.toInt) (b1 : rp (fun k v => 0 ≤ v ∧ v ≤ 59) v_pairA 0 v_pairs.toInt) (b2 : rp (fun k v => 0 ≤ v ∧ v ≤ 59) v_pairB 0 v_pairs.toInt) (b3 : rp (fun k v => v < k ∧ -1 ≤ v) v_pairFrom 0 v_pairs.toInt) (u0 : zAll v_isThere v_many v_captures v_sort v_value v_least v_most v_holder v_parts v_end v_firstPart v_partBegin v_partEnd v_size v_positions) (u1 : zNo v_isBound) (hq : ∀ (r : Int32) (ov_thrown : Int32) (ov_finding : Int32) (ov_outMany : Int32) (ov_outNumbers : Bool) (ov_boundMany : Int32) (ov_acts : Int32) (ov_labels : Int32) (ov_tasks : Int32) (ov_eaters : Int32) (ov_reached : Int64) (ov_reachesEnd : Bool) (ov_pairs : Int32) (ov_sorts : Int32) (ov_out : Nat → Int32) (ov_isBound : Nat → Bool) (ov_bounds : Nat → Int32) (ov_act : Nat → Int32) (ov_actA : Nat → Int32) (ov_actB : Nat → Int32) (ov_labelAt : Nat → Int32) (ov_task : Nat → Int32) (ov_taskA : Nat → Int32) (ov_taskB : Nat → Int32) (ov_held : Nat → Int32) (ov_follows : Nat → Int64) (ov_endsAfter : Nat → Bool) (ov_eaterOf : Nat → Int32) (ov_eaterNode : Nat → Int32) (ov_isGone : Nat → Bool) (ov_walk : Nat → Int32) (ov_states : Nat → Int32) (ov_stateSet : Nat → Int64) (ov_isTaken : Nat → Bool) (ov_classes : Nat → Int32) (ov_classTakes : Nat → Int64) (ov_classOf : Nat → Int32) (ov_leads : Nat → Int32) (ov_pairA : Nat → Int32) (ov_pairB : Nat → Int32) (ov_pairFrom : Nat → Int32) (ov_pairSign : Nat → Int32) (ov_isPair : Nat → Bool) (ov_sortA : Nat → Int32) (ov_sortB : Nat → Int32) (ov_sortSign : Nat → Int32), ov_thrown.toInt = 0 → 0 ≤ r.toInt + 9 → r.toInt ≤ 400 → 0 ≤ ov_outMany.toInt → ov_outMany.toInt ≤ 400 → 0 ≤ ov_boundMany.toInt → ov_boundMany.toInt ≤ 3000 → rp (fun k v => 0 ≤ v ∧ v ≤ 59) ov_pairA 0 ov_pairs.toInt → rp (fun k v => 0 ≤ v ∧ v ≤ 59) ov_pairA ov_thrown.toInt ov_pairs.toInt → rp (fun k v => 0 ≤ v ∧ v ≤ 59) ov_pairB 0 ov_pairs.toInt → rp (fun k v => 0 ≤ v ∧ v ≤ 59) ov_pairB ov_thrown.toInt ov_pairs.toInt → rp (fun k v => v < k ∧ -1 ≤ v) ov_pairFrom 0 ov_pairs.toInt → rp (fun k v => v < k ∧ -1 ≤ v) ov_pairFrom ov_thrown.toInt ov_pairs.toInt → rp (fun k v => 0 ≤ v ∧ v ≤ 65535) ov_bounds 0 ov_boundMany.toInt → rp (fun k v => 0 ≤ v ∧ v ≤ 65535) ov_bounds ov_thrown.toInt ov_boundMany.toInt → rp (fun k v => 0 ≤ v ∧ v ≤ 59) ov_pairA 0 0 → rp (fun k v => 0 ≤ v ∧ v ≤ 59) ov_pairA 0 (r.toInt + 1) → rp (fun k v => 0 ≤ v ∧ v ≤ 59) ov_pairA 0 ov_thrown.toInt → rp (fun k v => 0 ≤ v ∧ v ≤ 59) ov_pairA (r.toInt + 1) (r.toInt + 1) → rp (fun k v => 0 ≤ v ∧ v ≤ 59) ov_pairA ov_thrown.toInt 0 → rp (fun k v => 0 ≤ v ∧ v ≤ 59) ov_pairA ov_thrown.toInt (r.toInt + 1) → rp (fun k v => 0 ≤ v ∧ v ≤ 59) ov_pairA ov_thrown.toInt ov_thrown.toInt → rp (fun k v => 0 ≤ v ∧ v ≤ 59) ov_pairB 0 0 → rp (fun k v => 0 ≤ v ∧ v ≤ 59) ov_pairB 0 (r.toInt + 1) → rp (fun k v => 0 ≤ v ∧ v ≤ 59) ov_pairB 0 ov_thrown.toInt → rp (fun k v => 0 ≤ v ∧ v ≤ 59) ov_pairB (r.toInt + 1) (r.toInt + 1) → rp (fun k v => 0 ≤ v ∧ v ≤ 59) ov_pairB ov_thrown.toInt 0 → rp (fun k v => 0 ≤ v ∧ v ≤ 59) ov_pairB ov_thrown.toInt (r.toInt + 1) → rp (fun k v => 0 ≤ v ∧ v ≤ 59) ov_pairB ov_thrown.toInt ov_thrown.toInt → rp (fun k v => v < k ∧ -1 ≤ v) ov_pairFrom 0 0 → rp (fun k v => v < k ∧ -1 ≤ v) ov_pairFrom 0 (r.toInt + 1) → rp (fun k v => v < k ∧ -1 ≤ v) ov_pairFrom 0 ov_thrown.toInt → rp (fun k v => v < k ∧ -1 ≤ v) ov_pairFrom (r.toInt + 1) (r.toInt + 1) → rp (fun k v => v < k ∧ -1 ≤ v) ov_pairFrom ov_thrown.toInt 0 → rp (fun k v => v < k ∧ -1 ≤ v) ov_pairFrom ov_thrown.toInt (r.toInt + 1) → rp (fun k v => v < k ∧ -1 ≤ v) ov_pairFrom ov_thrown.toInt ov_thrown.toInt → rp (fun k v => 0 ≤ v ∧ v ≤ 65535) ov_bounds (r.toInt + 9) ov_boundMany.toInt → rp (fun k v => 0 ≤ v ∧ v ≤ 59) ov_pairA (r.toInt + 9) 0 → rp (fun k v => 0 ≤ v ∧ v ≤ 59) ov_pairA (r.toInt + 9) (r.toInt + 9) → rp (fun k v => 0 ≤ v ∧ v ≤ 59) ov_pairA (r.toInt + 9) ov_thrown.toInt → rp (fun k v => 0 ≤ v ∧ v ≤ 59) ov_pairA (ov_finding.toInt + (-4)) (ov_finding.toInt + (-4)) → rp (fun k v => 0 ≤ v ∧ v ≤ 59) ov_pairA (r.toInt + 9) ov_pairs.toInt → rp (fun k v => 0 ≤ v ∧ v ≤ 59) ov_pairB (r.toInt + 9) 0 → rp (fun k v => 0 ≤ v ∧ v ≤ 59) ov_pairB (r.toInt + 9) (r.toInt + 9) → rp (fun k v => 0 ≤ v ∧ v ≤ 59) ov_pairB (r.toInt + 9) ov_thrown.toInt → rp (fun k v => 0 ≤ v ∧ v ≤ 59) ov_pairB (ov_finding.toInt + (-4)) (ov_finding.toInt + (-4)) → rp (fun k v => 0 ≤ v ∧ v ≤ 59) ov_pairB (r.toInt + 9) ov_pairs.toInt → rp (fun k v => v < k ∧ -1 ≤ v) ov_pairFrom (r.toInt + 9) 0 → rp (fun k v => v < k ∧ -1 ≤ v) ov_pairFrom (r.toInt + 9) (r.toInt + 9) → rp (fun k v => v < k ∧ -1 ≤ v) ov_pairFrom (r.toInt + 9) ov_thrown.toInt → rp (fun k v => v < k ∧ -1 ≤ v) ov_pairFrom (ov_finding.toInt + (-4)) (ov_finding.toInt + (-4)) → rp (fun k v => v < k ∧ -1 ≤ v) ov_pairFrom (r.toInt + 9) ov_pairs.toInt → (zNo ov_isBound) → Q r ov_thrown ov_finding ov_outMany ov_outNumbers ov_boundMany ov_acts ov_labels ov_tasks ov_eaters ov_reached ov_reachesEnd ov_pairs ov_sorts ov_out ov_isBound ov_bounds ov_act ov_actA ov_actB ov_labelAt ov_task ov_taskA ov_taskB ov_held ov_follows ov_endsAfter ov_eaterOf ov_eaterNode ov_isGone ov_walk ov_states ov_stateSet ov_isTaken ov_classes ov_classTakes ov_classOf ov_leads ov_pairA ov_pairB ov_pairFrom ov_pairSign ov_isPair ov_sortA ov_sortB ov_sortSign) : w_X12_parting p1 p2 v_finding v_outMany v_outNumbers v_boundMany v_acts v_labels v_tasks v_eaters v_reached v_reachesEnd v_pairs v_sorts v_isThere v_many v_sort v_value v_least v_most v_parts v_end v_size v_positions v_firstPart v_mayEmpty v_inCase v_partBegin v_partEnd v_out v_isBound v_bounds v_act v_actA v_actB v_labelAt v_task v_taskA v_taskB v_held v_follows v_endsAfter v_eaterOf v_eaterNode v_isGone v_walk v_states v_stateSet v_isTaken v_classes v_classTakes v_classOf v_leads v_pairA v_pairB v_pairFrom v_pairSign v_isPair v_sortA v_sortB v_sortSign Q := by
  have q_t : (bz true).toInt = 1 := rfl
  have q_f : (bz false).toInt = 0 := rfl
  have q_m9 : ((-9) : Int32).toInt = (-9) := rfl
  have q_m2 : ((-2) : Int32).toInt = (-2) := rfl
  have q_m1 : ((-1) : Int32).toInt = (-1) := rfl
  have q_0 : (0 : Int32).toInt = 0 := rfl
  have q_4 : (4 : Int32).toInt = 4 := rfl
  unfold w_X12_parting
  refine ok_X12_wrongSlot  (fun r7 r7_0 f1 f2 f3 u7_0 => ?_)
  have j_21 : ∀ (v_finding_21 : Int32), ((v_finding_21.toInt = r7_0.toInt) ∨ (r7.toInt = 0)) → (True) → w_X12_parting_21 Q 0 v_finding_21 v_outMany v_outNumbers v_boundMany v_acts v_labels v_tasks v_eaters v_reached v_reachesEnd v_pairs v_sorts v_out v_isBound v_bounds v_act v_actA v_actB v_labelAt v_task v_taskA v_taskB v_held v_follows v_endsAfter v_eaterOf v_eaterNode v_isGone v_walk v_states v_stateSet v_isTaken v_classes v_classTakes v_classOf v_leads v_pairA v_pairB v_pairFrom v_pairSign v_isPair v_sortA v_sortB v_sortSign := by
    intro v_finding_21 f4 u21_0
    unfold w_X12_parting_21
    exact hq (-2) 0 v_finding_21 v_outMany v_outNumbers v_boundMany v_acts v_labels v_tasks v_eaters v_reached v_reachesEnd v_pairs v_sorts v_out v_isBound v_bounds v_act v_actA v_actB v_labelAt v_task v_taskA v_taskB v_held v_follows v_endsAfter v_eaterOf v_eaterNode v_isGone v_walk v_states v_stateSet v_isTaken v_classes v_classTakes v_classOf v_leads v_pairA v_pairB v_pairFrom v_pairSign v_isPair v_sortA v_sortB v_sortSign (by omega) (by omega) (by omega) (by omega) (by omega) (by omega) (by omega) (rp_mono b1 (by omega) (by omega)) (rp_mono b1 (by omega) (by omega)) (rp_mono b2 (by omega) (by omega)) (rp_mono b2 (by omega) (by omega)) (rp_mono b3 (by omega) (by omega)) (rp_mono b3 (by omega) (by omega)) (rp_mono b0 (by omega) (by omega)) (rp_mono b0 (by omega) (by omega)) (rp_nil (by omega)) (rp_nil (by omega)) (rp_nil (by omega)) (rp_nil (by omega)) (rp_nil (by omega)) (rp_nil (by omega)) (rp_nil (by omega)) (rp_nil (by omega)) (rp_nil (by omega)) (rp_nil (by omega)) (rp_nil (by omega)) (rp_nil (by omega)) (rp_nil (by omega)) (rp_nil (by omega)) (rp_nil (by omega)) (rp_nil (by omega)) (rp_nil (by omega)) (rp_nil (by omega)) (rp_nil (by omega)) (rp_nil (by omega)) (rp_nil (by omega)) (rp_mono b0 (by omega) (by omega)) (rp_nil (by omega)) (rp_nil (by omega)) (rp_nil (by omega)) (rp_nil (by omega)) (rp_mono b1 (by omega) (by omega)) (rp_nil (by omega)) (rp_nil (by omega)) (rp_nil (by omega)) (rp_nil (by omega)) (rp_mono b2 (by omega) (by omega)) (rp_nil (by omega)) (rp_nil (by omega)) (rp_nil (by omega)) (rp_nil (by omega)) (rp_mono b3 (by omega) (by omega)) (by exact u1)
  refine ⟨fun c10 => ?_, fun c10 => ?_⟩
  · have f5 : r7.toInt ≠ 0 := i_ne (a := r7.toInt) (b := 0) rfl rfl c10
    exact j_21 r7_0 (by omega) (by trivial)
  · have f6 : r7.toInt = 0 := i_eq (a := r7.toInt) (b := 0) rfl rfl c10
    refine ok_X12_wrongSlot  (fun r15 r15_0 f7 f8 f9 u15_0 => ?_)
    refine ⟨fun c18 => ?_, fun c18 => ?_⟩
    · have f10 : r15.toInt = 0 := i_eq (a := r15.toInt) (b := 0) rfl rfl c18
      have hSA := zAll_s u0 (u7_0 (by omega)) (by omega) (by omega)
      have hSB := zAll_s u0 (u15_0 (by omega)) (by omega) (by omega)
      have f11 : 0 ≤ p1.toInt := by omega
      have f12 : p1.toInt ≤ 5 := by omega
      have f13 : 0 ≤ p2.toInt := by omega
      have f14 : p2.toInt ≤ 5 := by omega
      refine ok_X12_bothBars (v_holder := v_holder) (v_captures := v_captures) (by omega) (by omega) (by omega) (by omega) (by omega) (by omega) (rp_mono b0 (by omega) (by omega)) (by exact hSA.1) (by exact hSA.2) (by exact hSB.1) (by exact hSB.2) (by exact u1) (fun r27 r27_0 r27_1 r27_2 r27_3 r27_4 r27_5 r27_6 r27_7 r27_8 r27_9 r27_10 r27_11 r27_12 r27_13 r27_14 r27_15 r27_16 r27_17 r27_18 r27_19 r27_20 r27_21 r27_22 r27_23 r27_24 r27_25 r27_26 r27_27 r27_28 r27_29 r27_30 r27_31 r27_32 r27_33 f15 f16 f17 f18 h19 u27_0 u27_1 => ?_)
      refine ⟨fun c32 => ?_, fun c32 => ?_⟩
      · have f20 : r27.toInt = 0 := i_eq (a := r27.toInt) (b := 0) rfl rfl c32
        obtain ⟨hT0, hT1, hSo, hso, hbm⟩ := u27_1 (by omega)
        obtain ⟨P9, hP9⟩ : ∃ P9 : Nat, (P9 : Int) = 3800 := ⟨3800, rfl⟩
        have f21 : 0 ≤ r27_7.toInt := hso.1
        have f22 : r27_7.toInt ≤ 260 := hso.2
        refine ok_X12_findPairs (v_states := r27_24) (v_classes := r27_27) (v_classOf := r27_29) (gP9 := P9) (gbm9 := r27_0.toInt) (by omega) (by omega) (rp_mono b1 (by omega) (by omega)) (rp_mono b2 (by omega) (by omega)) (rp_mono b3 (by omega) (by omega)) (by exact hT0) (by exact hT1) (by exact hSo) (by exact hP9) (fun r38_0 r38_1 r38_2 r38_3 r38_4 r38_5 f23 f24 f25 f26 f27 f28 h29 h30 h31 h32 h33 h34 u38_0 => ?_)
        have j_44 : ∀ n_44 : Nat, ∀ (l4_44 : Int32), 0 ≤ l4_44.toInt → l4_44.toInt ≤ r38_0.toInt → (True) → ((-1) * l4_44.toInt + 2147483648).toNat < n_44 → w_X12_parting_44 Q 0 r15_0 v_outMany v_outNumbers r27_0 r27_1 r27_2 r27_3 r27_4 r27_5 r27_6 r38_0 r27_7 v_out r27_8 r27_9 r27_10 r27_11 r27_12 r27_13 r27_14 r27_15 r27_16 r27_17 r27_18 r27_19 r27_20 r27_21 r27_22 r27_23 r27_24 r27_25 r27_26 r27_27 r27_28 r27_29 r27_30 r38_1 r38_2 r38_3 r38_4 r38_5 r27_31 r27_32 r27_33 n_44 l4_44 := by
          intro n_44
          induction n_44 with
          | zero =>
            intro l4_44 f35 f36 u44_0 hm_44
            exfalso; omega
          | succ n_44 ih_44 =>
            intro l4_44 f35 f36 u44_0 hm_44
            unfold w_X12_parting_44
            unfold w_X12_parting_44B
            have j_68 : ((r38_0.toInt ≤ l4_44.toInt) ∨ (l4_44.toInt + 1 ≤ r38_0.toInt)) → (True) → w_X12_parting_68 Q l4_44 0 r15_0 v_outMany v_outNumbers r27_0 r27_1 r27_2 r27_3 r27_4 r27_5 r27_6 r38_0 r27_7 v_out r27_8 r27_9 r27_10 r27_11 r27_12 r27_13 r27_14 r27_15 r27_16 r27_17 r27_18 r27_19 r27_20 r27_21 r27_22 r27_23 r27_24 r27_25 r27_26 r27_27 r27_28 r27_29 r27_30 r38_1 r38_2 r38_3 r38_4 r38_5 r27_31 r27_32 r27_33 := by
              intro f37 u68_0
              unfold w_X12_parting_68
              refine ⟨fun c74 => ?_, fun c74 => ?_⟩
              · have f38 : l4_44.toInt ≠ r38_0.toInt := i_ne (a := l4_44.toInt) (b := r38_0.toInt) rfl rfl c74
                have hr9 : rp (fun k v => v < k ∧ -1 ≤ v) r38_3 0 r38_0.toInt := by with_reducible assumption
                have j_86 : ∀ n_86 : Nat, ∀ (l5_86 : Int32) (l6_86 : Int32), 0 ≤ l6_86.toInt → 0 ≤ l5_86.toInt → l5_86.toInt + l6_86.toInt ≤ l4_44.toInt → (l5_86.toInt + zbl r38_3 l6_86.toInt = zbl r38_3 l4_44.toInt) → ((-1) * l5_86.toInt + 2147483648).toNat < n_86 → w_X12_parting_86 Q l4_44 0 r15_0 v_outMany v_outNumbers r27_0 r27_1 r27_2 r27_3 r27_4 r27_5 r27_6 r38_0 r27_7 v_out r27_8 r27_9 r27_10 r27_11 r27_12 r27_13 r27_14 r27_15 r27_16 r27_17 r27_18 r27_19 r27_20 r27_21 r27_22 r27_23 r27_24 r27_25 r27_26 r27_27 r27_28 r27_29 r27_30 r38_1 r38_2 r38_3 r38_4 r38_5 r27_31 r27_32 r27_33 n_86 l5_86 l6_86 := by
                  intro n_86
                  induction n_86 with
                  | zero =>
                    intro l5_86 l6_86 f39 f40 f41 u86_0 hm_86
                    exfalso; omega
                  | succ n_86 ih_86 =>
                    intro l5_86 l6_86 f39 f40 f41 u86_0 hm_86
                    unfold w_X12_parting_86
                    unfold w_X12_parting_86B
                    refine ⟨i_in (by omega) (by omega), ?_⟩
                    intro x92 ex92
                    have f42 : x92.toInt + 1 ≤ l6_86.toInt ∧ 0 ≤ x92.toInt + 1 := by have h9 := rp_get (P := (fun k v => v < k ∧ -1 ≤ v)) (a := l6_86.toInt) h34 ex92 rfl (by omega) (by omega) (by omega); omega
                    have h92 := zg_at ex92
                    refine ⟨fun c94 => ?_, fun c94 => ?_⟩
                    · have f43 : x92.toInt = (-1) := i_eq (a := x92.toInt) (b := (-1)) rfl rfl c94
                      have hz8 := zbl_0 (f := r38_3) (q := l6_86.toInt) (by omega)
                      refine ⟨fun c117 => ?_, fun c117 => ?_⟩
                      · have f44 : l5_86.toInt ≤ 400 := i_le (a := l5_86.toInt) (b := 400) rfl rfl c117
                        have j_143 : ∀ n_143 : Nat, ∀ (l5_143 : Int32) (l6_143 : Int32) (v_out_143 : Nat → Int32), 0 ≤ l6_143.toInt → l6_143.toInt + 1 ≤ r38_0.toInt → 0 ≤ l5_143.toInt → l5_143.toInt ≤ 400 → (l5_143.toInt = zbl r38_3 l6_143.toInt) → (l5_143.toInt + 2147483649).toNat < n_143 → w_X12_parting_143 Q 0 r15_0 l5_86 false r27_0 r27_1 r27_2 r27_3 r27_4 r27_5 r27_6 r38_0 r27_7 r27_8 r27_9 r27_10 r27_11 r27_12 r27_13 r27_14 r27_15 r27_16 r27_17 r27_18 r27_19 r27_20 r27_21 r27_22 r27_23 r27_24 r27_25 r27_26 r27_27 r27_28 r27_29 r27_30 r38_1 r38_2 r38_3 r38_4 r38_5 r27_31 r27_32 r27_33 n_143 l5_143 l6_143 v_out_143 := by
                          intro n_143
                          induction n_143 with
                          | zero =>
                            intro l5_143 l6_143 v_out_143 f45 f46 f47 f48 u143_0 hm_143
                            exfalso; omega
                          | succ n_143 ih_143 =>
                            intro l5_143 l6_143 v_out_143 f45 f46 f47 f48 u143_0 hm_143
                            unfold w_X12_parting_143
                            unfold w_X12_parting_143B
                            refine ⟨i_in (by omega) (by omega), ?_⟩
                            intro x149 ex149
                            have f49 : x149.toInt + 1 ≤ l6_143.toInt ∧ 0 ≤ x149.toInt + 1 := by have h9 := rp_get (P := (fun k v => v < k ∧ -1 ≤ v)) (a := l6_143.toInt) h34 ex149 rfl (by omega) (by omega) (by omega); omega
                            have h149 := zg_at ex149
                            refine ⟨fun c151 => ?_, fun c151 => ?_⟩
                            · have f50 : x149.toInt = (-1) := i_eq (a := x149.toInt) (b := (-1)) rfl rfl c151
                              exact hq l5_86 0 r15_0 l5_86 false r27_0 r27_1 r27_2 r27_3 r27_4 r27_5 r27_6 r38_0 r27_7 v_out_143 r27_8 r27_9 r27_10 r27_11 r27_12 r27_13 r27_14 r27_15 r27_16 r27_17 r27_18 r27_19 r27_20 r27_21 r27_22 r27_23 r27_24 r27_25 r27_26 r27_27 r27_28 r27_29 r27_30 r38_1 r38_2 r38_3 r38_4 r38_5 r27_31 r27_32 r27_33 (by omega) (by omega) (by omega) (by omega) (by omega) (by omega) (by omega) (rp_mono h30 (by omega) (by omega)) (rp_mono h30 (by omega) (by omega)) (rp_mono h32 (by omega) (by omega)) (rp_mono h32 (by omega) (by omega)) (rp_mono h34 (by omega) (by omega)) (rp_mono h34 (by omega) (by omega)) (rp_mono h19 (by omega) (by omega)) (rp_mono h19 (by omega) (by omega)) (rp_mono h30 (by omega) (by omega)) (rp_mono h30 (by omega) (by omega)) (rp_mono h30 (by omega) (by omega)) (rp_mono h30 (by omega) (by omega)) (rp_mono h30 (by omega) (by omega)) (rp_mono h30 (by omega) (by omega)) (rp_mono h30 (by omega) (by omega)) (rp_mono h32 (by omega) (by omega)) (rp_mono h32 (by omega) (by omega)) (rp_mono h32 (by omega) (by omega)) (rp_mono h32 (by omega) (by omega)) (rp_mono h32 (by omega) (by omega)) (rp_mono h32 (by omega) (by omega)) (rp_mono h32 (by omega) (by omega)) (rp_mono h34 (by omega) (by omega)) (rp_mono h34 (by omega) (by omega)) (rp_mono h34 (by omega) (by omega)) (rp_mono h34 (by omega) (by omega)) (rp_mono h34 (by omega) (by omega)) (rp_mono h34 (by omega) (by omega)) (rp_mono h34 (by omega) (by omega)) (rp_mono h19 (by omega) (by omega)) (rp_mono h30 (by omega) (by omega)) (rp_nil (by omega)) (rp_mono h30 (by omega) (by omega)) (rp_nil (by omega)) (rp_mono h30 (by omega) (by omega)) (rp_mono h32 (by omega) (by omega)) (rp_nil (by omega)) (rp_mono h32 (by omega) (by omega)) (rp_nil (by omega)) (rp_mono h32 (by omega) (by omega)) (rp_mono h34 (by omega) (by omega)) (rp_nil (by omega)) (rp_mono h34 (by omega) (by omega)) (rp_nil (by omega)) (rp_mono h34 (by omega) (by omega)) (by exact u27_0)
                            · have f51 : x149.toInt ≠ (-1) := i_ne (a := x149.toInt) (b := (-1)) rfl rfl c151
                              have hs9 := zbl_s hr9 (q := l6_143.toInt) (by omega) (by omega) (by omega)
                              have f52 : 1 ≤ l5_143.toInt := by omega
                              intro x154 ex154
                              have f53 : x154.toInt = l5_143.toInt + (-1) := i_add (a := l5_143.toInt) (b := (-1)) ex154 rfl rfl (by omega) (by omega)
                              refine ⟨i_in (by omega) (by omega), ?_⟩
                              intro x169 ex169
                              refine ⟨i_in (by omega) (by omega), ?_⟩
                              intro g170 eg170
                              refine ⟨i_in (by omega) (by omega), ?_⟩
                              intro x177 ex177
                              have f54 : x177.toInt = x149.toInt := congrArg Int32.toInt (ex177.trans ex149.symm)
                              have f55 : x177.toInt + 1 ≤ l6_143.toInt ∧ 0 ≤ x177.toInt + 1 := by have h9 := rp_get (P := (fun k v => v < k ∧ -1 ≤ v)) (a := l6_143.toInt) h34 ex177 rfl (by omega) (by omega) (by omega); omega
                              exact ih_143 x154 x177 g170  (by omega) (by omega) (by omega) (by omega) (by first | omega | (rw [zg_at ex177]; omega)) (by have h8_0 := i_rng l5_143; have h8_1 := i_rng x154; omega)
                        exact ⟨(l5_86.toInt + 2147483649).toNat + 1, j_143   ((l5_86.toInt + 2147483649).toNat + 1) l5_86 l4_44 v_out  (by omega) (by omega) (by omega) (by omega) (by first | omega | (rw [zg_at ex177]; omega)) (by omega)⟩
                      · have f56 : 400 < l5_86.toInt := i_nle (a := l5_86.toInt) (b := 400) rfl rfl c117
                        exact hq (-9) 0 4 v_outMany v_outNumbers r27_0 r27_1 r27_2 r27_3 r27_4 r27_5 r27_6 r38_0 r27_7 v_out r27_8 r27_9 r27_10 r27_11 r27_12 r27_13 r27_14 r27_15 r27_16 r27_17 r27_18 r27_19 r27_20 r27_21 r27_22 r27_23 r27_24 r27_25 r27_26 r27_27 r27_28 r27_29 r27_30 r38_1 r38_2 r38_3 r38_4 r38_5 r27_31 r27_32 r27_33 (by omega) (by omega) (by omega) (by omega) (by omega) (by omega) (by omega) (rp_mono h30 (by omega) (by omega)) (rp_mono h30 (by omega) (by omega)) (rp_mono h32 (by omega) (by omega)) (rp_mono h32 (by omega) (by omega)) (rp_mono h34 (by omega) (by omega)) (rp_mono h34 (by omega) (by omega)) (rp_mono h19 (by omega) (by omega)) (rp_mono h19 (by omega) (by omega)) (rp_mono h30 (by omega) (by omega)) (rp_mono h30 (by omega) (by omega)) (rp_mono h30 (by omega) (by omega)) (rp_nil (by omega)) (rp_mono h30 (by omega) (by omega)) (rp_mono h30 (by omega) (by omega)) (rp_mono h30 (by omega) (by omega)) (rp_mono h32 (by omega) (by omega)) (rp_mono h32 (by omega) (by omega)) (rp_mono h32 (by omega) (by omega)) (rp_nil (by omega)) (rp_mono h32 (by omega) (by omega)) (rp_mono h32 (by omega) (by omega)) (rp_mono h32 (by omega) (by omega)) (rp_mono h34 (by omega) (by omega)) (rp_mono h34 (by omega) (by omega)) (rp_mono h34 (by omega) (by omega)) (rp_nil (by omega)) (rp_mono h34 (by omega) (by omega)) (rp_mono h34 (by omega) (by omega)) (rp_mono h34 (by omega) (by omega)) (rp_mono h19 (by omega) (by omega)) (rp_mono h30 (by omega) (by omega)) (rp_mono h30 (by omega) (by omega)) (rp_mono h30 (by omega) (by omega)) (rp_mono h30 (by omega) (by omega)) (rp_mono h30 (by omega) (by omega)) (rp_mono h32 (by omega) (by omega)) (rp_mono h32 (by omega) (by omega)) (rp_mono h32 (by omega) (by omega)) (rp_mono h32 (by omega) (by omega)) (rp_mono h32 (by omega) (by omega)) (rp_mono h34 (by omega) (by omega)) (rp_mono h34 (by omega) (by omega)) (rp_mono h34 (by omega) (by omega)) (rp_mono h34 (by omega) (by omega)) (rp_mono h34 (by omega) (by omega)) (by exact u27_0)
                    · have f57 : x92.toInt ≠ (-1) := i_ne (a := x92.toInt) (b := (-1)) rfl rfl c94
                      have hs9 := zbl_s hr9 (q := l6_86.toInt) (by omega) (by omega) (by omega)
                      intro x97 ex97
                      have f58 : x97.toInt = l5_86.toInt + 1 := i_add (a := l5_86.toInt) (b := 1) ex97 rfl rfl (by omega) (by omega)
                      refine ⟨i_in (by omega) (by omega), ?_⟩
                      intro x106 ex106
                      have f59 : x106.toInt = x92.toInt := congrArg Int32.toInt (ex106.trans ex92.symm)
                      have f60 : x106.toInt + 1 ≤ l6_86.toInt ∧ 0 ≤ x106.toInt + 1 := by have h9 := rp_get (P := (fun k v => v < k ∧ -1 ≤ v)) (a := l6_86.toInt) h34 ex106 rfl (by omega) (by omega) (by omega); omega
                      exact ih_86 x97 x106  (by omega) (by omega) (by omega) (by first | (have e0 : (0 : Int32).toInt = 0 := rfl; omega) | (rw [zg_at ex106]; omega)) (by have h8_0 := i_rng l5_86; have h8_1 := i_rng x97; omega)
                exact ⟨(2147483648 : Int).toNat + 1, j_86   ((2147483648 : Int).toNat + 1) 0 l4_44  (by omega) (by omega) (by omega) (by first | (have e0 : (0 : Int32).toInt = 0 := rfl; omega) | (rw [zg_at ex106]; omega)) (by omega)⟩
              · have f61 : l4_44.toInt = r38_0.toInt := i_eq (a := l4_44.toInt) (b := r38_0.toInt) rfl rfl c74
                exact hq (-1) 0 r15_0 v_outMany v_outNumbers r27_0 r27_1 r27_2 r27_3 r27_4 r27_5 r27_6 r38_0 r27_7 v_out r27_8 r27_9 r27_10 r27_11 r27_12 r27_13 r27_14 r27_15 r27_16 r27_17 r27_18 r27_19 r27_20 r27_21 r27_22 r27_23 r27_24 r27_25 r27_26 r27_27 r27_28 r27_29 r27_30 r38_1 r38_2 r38_3 r38_4 r38_5 r27_31 r27_32 r27_33 (by omega) (by omega) (by omega) (by omega) (by omega) (by omega) (by omega) (rp_mono h30 (by omega) (by omega)) (rp_mono h30 (by omega) (by omega)) (rp_mono h32 (by omega) (by omega)) (rp_mono h32 (by omega) (by omega)) (rp_mono h34 (by omega) (by omega)) (rp_mono h34 (by omega) (by omega)) (rp_mono h19 (by omega) (by omega)) (rp_mono h19 (by omega) (by omega)) (rp_mono h30 (by omega) (by omega)) (rp_mono h30 (by omega) (by omega)) (rp_mono h30 (by omega) (by omega)) (rp_mono h30 (by omega) (by omega)) (rp_mono h30 (by omega) (by omega)) (rp_mono h30 (by omega) (by omega)) (rp_mono h30 (by omega) (by omega)) (rp_mono h32 (by omega) (by omega)) (rp_mono h32 (by omega) (by omega)) (rp_mono h32 (by omega) (by omega)) (rp_mono h32 (by omega) (by omega)) (rp_mono h32 (by omega) (by omega)) (rp_mono h32 (by omega) (by omega)) (rp_mono h32 (by omega) (by omega)) (rp_mono h34 (by omega) (by omega)) (rp_mono h34 (by omega) (by omega)) (rp_mono h34 (by omega) (by omega)) (rp_mono h34 (by omega) (by omega)) (rp_mono h34 (by omega) (by omega)) (rp_mono h34 (by omega) (by omega)) (rp_mono h34 (by omega) (by omega)) (rp_mono h19 (by omega) (by omega)) (rp_mono h30 (by omega) (by omega)) (rp_nil (by omega)) (rp_mono h30 (by omega) (by omega)) (rp_nil (by omega)) (rp_mono h30 (by omega) (by omega)) (rp_mono h32 (by omega) (by omega)) (rp_nil (by omega)) (rp_mono h32 (by omega) (by omega)) (rp_nil (by omega)) (rp_mono h32 (by omega) (by omega)) (rp_mono h34 (by omega) (by omega)) (rp_nil (by omega)) (rp_mono h34 (by omega) (by omega)) (rp_nil (by omega)) (rp_mono h34 (by omega) (by omega)) (by exact u27_0)
            refine ⟨fun c50 => ?_, fun c50 => ?_⟩
            · have f62 : r38_0.toInt ≤ l4_44.toInt := i_le (a := r38_0.toInt) (b := l4_44.toInt) rfl rfl c50
              exact j_68  (by omega) (by trivial)
            · have f63 : l4_44.toInt < r38_0.toInt := i_nle (a := r38_0.toInt) (b := l4_44.toInt) rfl rfl c50
              refine ok_X12_isParted (v_pairs := r38_0) (by omega) (by omega) (by omega) (by omega) (rp_mono h30 (by omega) (by omega)) (rp_mono h32 (by omega) (by omega)) (fun r56 f64 f65 => ?_)
              refine ⟨fun c59 => ?_, fun c59 => ?_⟩
              · have f66 : r56.toInt ≠ 0 := i_ne (a := r56.toInt) (b := 0) rfl rfl c59
                exact j_68  (by omega) (by trivial)
              · have f67 : r56.toInt = 0 := i_eq (a := r56.toInt) (b := 0) rfl rfl c59
                intro x62 ex62
                have f68 : x62.toInt = l4_44.toInt + 1 := i_add (a := l4_44.toInt) (b := 1) ex62 rfl rfl (by omega) (by omega)
                exact ih_44 x62  (by omega) (by omega) (by trivial) (by have h8_0 := i_rng l4_44; have h8_1 := i_rng x62; omega)
        exact ⟨(2147483648 : Int).toNat + 1, j_44   ((2147483648 : Int).toNat + 1) 0  (by omega) (by omega) (by trivial) (by omega)⟩
      · have f69 : r27.toInt ≠ 0 := i_ne (a := r27.toInt) (b := 0) rfl rfl c32
        exact hq r27 0 r15_0 v_outMany v_outNumbers r27_0 r27_1 r27_2 r27_3 r27_4 r27_5 r27_6 v_pairs r27_7 v_out r27_8 r27_9 r27_10 r27_11 r27_12 r27_13 r27_14 r27_15 r27_16 r27_17 r27_18 r27_19 r27_20 r27_21 r27_22 r27_23 r27_24 r27_25 r27_26 r27_27 r27_28 r27_29 r27_30 v_pairA v_pairB v_pairFrom v_pairSign v_isPair r27_31 r27_32 r27_33 (by omega) (by omega) (by omega) (by omega) (by omega) (by omega) (by omega) (rp_mono b1 (by omega) (by omega)) (rp_mono b1 (by omega) (by omega)) (rp_mono b2 (by omega) (by omega)) (rp_mono b2 (by omega) (by omega)) (rp_mono b3 (by omega) (by omega)) (rp_mono b3 (by omega) (by omega)) (rp_mono h19 (by omega) (by omega)) (rp_mono h19 (by omega) (by omega)) (rp_nil (by omega)) (rp_nil (by omega)) (rp_nil (by omega)) (rp_nil (by omega)) (rp_nil (by omega)) (rp_nil (by omega)) (rp_nil (by omega)) (rp_nil (by omega)) (rp_nil (by omega)) (rp_nil (by omega)) (rp_nil (by omega)) (rp_nil (by omega)) (rp_nil (by omega)) (rp_nil (by omega)) (rp_nil (by omega)) (rp_nil (by omega)) (rp_nil (by omega)) (rp_nil (by omega)) (rp_nil (by omega)) (rp_nil (by omega)) (rp_nil (by omega)) (rp_mono h19 (by omega) (by omega)) (rp_nil (by omega)) (rp_nil (by omega)) (rp_nil (by omega)) (rp_nil (by omega)) (rp_mono b1 (by omega) (by omega)) (rp_nil (by omega)) (rp_nil (by omega)) (rp_nil (by omega)) (rp_nil (by omega)) (rp_mono b2 (by omega) (by omega)) (rp_nil (by omega)) (rp_nil (by omega)) (rp_nil (by omega)) (rp_nil (by omega)) (rp_mono b3 (by omega) (by omega)) (by exact u27_0)
    · have f70 : r15.toInt ≠ 0 := i_ne (a := r15.toInt) (b := 0) rfl rfl c18
      exact j_21 r15_0 (by omega) (by trivial)
