set_option maxHeartbeats 4000000 in
theorem ok_X12_isBack {p1 : Int32} {v_spot : Int32} {v_textNow : Int32} {v_longNow : Int32} {v_value : Nat → Int32} {v_inCase : Nat → Bool} {v_signs : Nat → Int32} {v_reg : Nat → Int32} {Q : Int32 → Int32 → Prop} (a0 : 0 ≤ v_textNow.toInt) (a1 : v_textNow.toInt ≤ 300) (a2 : 0 ≤ v_longNow.toInt) (a3 : v_longNow.toInt ≤ 100) (a4 : 0 ≤ v_spot.toInt) (a5 : v_spot.toInt ≤ v_longNow.toInt) (a6 : 0 ≤ p1.toInt) (a7 : p1.toInt ≤ 1319) (b0 : rp (fun k v => 0 ≤ v ∧ v ≤ 65535) v_signs 0 400) (u0 : zBq v_reg v_value p1.toInt v_longNow.toInt) (hq : ∀ (r : Int32) (ov_spot : Int32), 0 ≤ r.toInt + 1 → 0 ≤ r.toInt → r.toInt ≤ 1 → r.toInt ≤ 2 → r.toInt ≤ p1.toInt + 1 → r.toInt ≤ v_spot.toInt + 1 → r.toInt ≤ v_textNow.toInt + 1 → r.toInt ≤ v_longNow.toInt + 1 → v_spot.toInt ≤ ov_spot.toInt → ov_spot.toInt ≤ v_longNow.toInt → Q r ov_spot) : w_X12_isBack p1 v_spot v_textNow v_longNow v_value v_inCase v_signs v_reg Q := by
  have q_t : (bz true).toInt = 1 := rfl
  have q_f : (bz false).toInt = 0 := rfl
  have q_0 : (0 : Int32).toInt = 0 := rfl
  have q_1 : (1 : Int32).toInt = 1 := rfl
  unfold w_X12_isBack
  refine ⟨i_in (by omega) (by omega), ?_⟩
  intro x10 ex10
  have f1 : (0 ≤ x10.toInt ∧ x10.toInt ≤ 9) := zBq_v u0 ex10
  intro x11 ex11
  have f2 : x11.toInt = 0 + x10.toInt := i_add (a := 0) (b := x10.toInt) ex11 rfl rfl (by omega) (by omega)
  refine ⟨i_in (by omega) (by omega), ?_⟩
  intro x12 ex12
  have f3 : (0 ≤ x12.toInt + 1 ∧ x12.toInt ≤ 100) := by have h9 := zBq_b u0 ex10 ex12 (by omega); omega
  refine ⟨i_in (by omega) (by omega), ?_⟩
  intro x25 ex25
  have f4 : x25.toInt = x10.toInt := congrArg Int32.toInt (ex25.trans ex10.symm)
  have f5 : (0 ≤ x25.toInt ∧ x25.toInt ≤ 9) := zBq_v u0 ex25
  intro x26 ex26
  have f6 : x26.toInt = 10 + x25.toInt := i_add (a := 10) (b := x25.toInt) ex26 rfl rfl (by omega) (by omega)
  refine ⟨i_in (by omega) (by omega), ?_⟩
  intro x27 ex27
  have f7 : (0 ≤ x27.toInt + 1 ∧ x27.toInt ≤ 100) := by have h9 := (zBq_e u0 ex10 ex12 (by omega) ex25 ex27 (by omega)).1; omega
  have f8 : ((x12.toInt + 1 ≤ 0) ∨ (x12.toInt ≤ x27.toInt ∧ x27.toInt ≤ v_longNow.toInt)) := by have h9 := (zBq_e u0 ex10 ex12 (by omega) ex25 ex27 (by omega)).2; omega
  intro x29 ex29
  have f9 : x29.toInt = x27.toInt - x12.toInt := i_sub (a := x27.toInt) (b := x12.toInt) ex29 rfl rfl (by omega) (by omega)
  have j_53 : ∀ (s0_53 : Int32), 0 ≤ s0_53.toInt → s0_53.toInt ≤ 1 → ((s0_53.toInt = 0) ∨ (0 ≤ x12.toInt)) → ((s0_53.toInt = 0) ∨ (v_spot.toInt + x29.toInt ≤ v_longNow.toInt)) → ((s0_53.toInt = 1 ∧ 0 ≤ x12.toInt ∧ v_spot.toInt + x29.toInt ≤ v_longNow.toInt) ∨ (s0_53.toInt = 0)) → w_X12_isBack_53 p1 v_textNow v_inCase v_signs Q s0_53 x12 x29 v_spot := by
    intro s0_53 f10 f11 f12 f13 f14
    unfold w_X12_isBack_53
    have j_58 : ∀ n_58 : Nat, ∀ (l4_58 : Int32) (l5_58 : Int32), 0 ≤ l4_58.toInt → l4_58.toInt ≤ s0_53.toInt → 0 ≤ l5_58.toInt → l5_58.toInt ≤ x29.toInt → l5_58.toInt ≤ v_longNow.toInt → ((-1) * l5_58.toInt + 2147483648).toNat < n_58 → w_X12_isBack_58 p1 v_textNow v_inCase v_signs Q x12 x29 v_spot n_58 l4_58 l5_58 := by
      intro n_58
      induction n_58 with
      | zero =>
        intro l4_58 l5_58 f15 f16 f17 f18 f19 hm_58
        exfalso; omega
      | succ n_58 ih_58 =>
        intro l4_58 l5_58 f15 f16 f17 f18 f19 hm_58
        unfold w_X12_isBack_58
        unfold w_X12_isBack_58B
        have j_131 : ((x29.toInt ≤ l5_58.toInt) ∨ (l5_58.toInt + 1 ≤ x29.toInt ∧ l4_58.toInt = 0)) → w_X12_isBack_131 Q x29 l4_58 v_spot := by
          intro f20
          unfold w_X12_isBack_131
          have j_146 : ∀ (s0_146 : Int32), 0 ≤ s0_146.toInt → s0_146.toInt + v_spot.toInt ≤ v_longNow.toInt → ((s0_146.toInt = 0 ∧ l4_58.toInt = 0) ∨ (s0_146.toInt = x29.toInt)) → w_X12_isBack_146 Q s0_146 v_spot l4_58 v_spot := by
            intro s0_146 f21 f22 f23
            unfold w_X12_isBack_146
            intro x146 ex146
            have f24 : x146.toInt = v_spot.toInt + s0_146.toInt := i_add (a := v_spot.toInt) (b := s0_146.toInt) ex146 rfl rfl (by omega) (by omega)
            refine ⟨i_01 (by omega) (by omega), ?_⟩
            exact hq l4_58 x146 (by omega) (by omega) (by omega) (by omega) (by omega) (by omega) (by omega) (by omega) (by omega) (by omega)
          refine ⟨fun c138 => ?_, fun c138 => ?_⟩
          · have f25 : l4_58.toInt = 0 := i_eq (a := l4_58.toInt) (b := 0) rfl rfl c138
            exact j_146 0 (by omega) (by omega) (by omega)
          · have f26 : l4_58.toInt ≠ 0 := i_ne (a := l4_58.toInt) (b := 0) rfl rfl c138
            exact j_146 x29 (by omega) (by omega) (by omega)
        refine ⟨fun c61 => ?_, fun c61 => ?_⟩
        · have f27 : x29.toInt ≤ l5_58.toInt := i_le (a := x29.toInt) (b := l5_58.toInt) rfl rfl c61
          exact j_131  (by omega)
        · have f28 : l5_58.toInt < x29.toInt := i_nle (a := x29.toInt) (b := l5_58.toInt) rfl rfl c61
          refine ⟨fun c66 => ?_, fun c66 => ?_⟩
          · have f29 : l4_58.toInt = 0 := i_eq (a := l4_58.toInt) (b := 0) rfl rfl c66
            exact j_131  (by omega)
          · have f30 : l4_58.toInt ≠ 0 := i_ne (a := l4_58.toInt) (b := 0) rfl rfl c66
            intro x73 ex73
            have f31 : x73.toInt = x12.toInt + l5_58.toInt := i_add (a := x12.toInt) (b := l5_58.toInt) ex73 rfl rfl (by omega) (by omega)
            refine ok_X12_signOf (by omega) (by omega) (by omega) (by omega) (rp_mono b0 (by omega) (by omega)) (fun r74 f32 f33 => ?_)
            intro x86 ex86
            have f34 : x86.toInt = v_spot.toInt + l5_58.toInt := i_add (a := v_spot.toInt) (b := l5_58.toInt) ex86 rfl rfl (by omega) (by omega)
            refine ok_X12_signOf (by omega) (by omega) (by omega) (by omega) (rp_mono b0 (by omega) (by omega)) (fun r87 f35 f36 => ?_)
            have j_123 : ∀ (s0_123 : Int32), 0 ≤ s0_123.toInt → s0_123.toInt ≤ 1 → ((s0_123.toInt = 0) ∨ (s0_123.toInt = 1)) → w_X12_isBack_123 Q (w_X12_isBack_58 p1 v_textNow v_inCase v_signs Q x12 x29 v_spot n_58) s0_123 l5_58 := by
              intro s0_123 f37 f38 f39
              unfold w_X12_isBack_123
              intro x125 ex125
              have f40 : x125.toInt = l5_58.toInt + 1 := i_add (a := l5_58.toInt) (b := 1) ex125 rfl rfl (by omega) (by omega)
              exact ih_58 s0_123 x125  (by omega) (by omega) (by omega) (by omega) (by omega) (by have h8_0 := i_rng l5_58; have h8_1 := i_rng x125; omega)
            have j_118 : ((r74.toInt = r87.toInt) ∨ (0 ≤ r87.toInt ∧ r87.toInt ≤ 65535)) → w_X12_isBack_118 Q (w_X12_isBack_58 p1 v_textNow v_inCase v_signs Q x12 x29 v_spot n_58) l5_58 := by
              intro f41
              unfold w_X12_isBack_118
              exact j_123 1 (by omega) (by omega) (by omega)
            refine ⟨fun c96 => ?_, fun c96 => ?_⟩
            · have f42 : r74.toInt = r87.toInt := i_eq (a := r74.toInt) (b := r87.toInt) rfl rfl c96
              exact j_118  (by omega)
            · have f43 : r74.toInt ≠ r87.toInt := i_ne (a := r74.toInt) (b := r87.toInt) rfl rfl c96
              refine ⟨i_in (by omega) (by omega), ?_⟩
              intro x104 ex104
              have f44 : (0 ≤ x104.toInt ∧ x104.toInt ≤ 1) := i_bz ex104
              have j_122 : w_X12_isBack_122 Q (w_X12_isBack_58 p1 v_textNow v_inCase v_signs Q x12 x29 v_spot n_58) l5_58 := by
                unfold w_X12_isBack_122
                exact j_123 0 (by omega) (by omega) (by omega)
              refine ⟨fun c105 => ?_, fun c105 => ?_⟩
              · have f45 : x104.toInt = 0 := i_eq (a := x104.toInt) (b := 0) rfl rfl c105
                exact j_122  
              · have f46 : x104.toInt ≠ 0 := i_ne (a := x104.toInt) (b := 0) rfl rfl c105
                refine ok_X12_otherCase (by omega) (by omega) (fun r110 f47 f48 f49 f50 f51 f52 => ?_)
                refine ⟨fun c115 => ?_, fun c115 => ?_⟩
                · have f53 : r110.toInt ≠ r87.toInt := i_ne (a := r110.toInt) (b := r87.toInt) rfl rfl c115
                  exact j_122  
                · have f54 : r110.toInt = r87.toInt := i_eq (a := r110.toInt) (b := r87.toInt) rfl rfl c115
                  exact j_118  (by omega)
    exact ⟨(2147483648 : Int).toNat + 1, j_58   ((2147483648 : Int).toNat + 1) s0_53 0  (by omega) (by omega) (by omega) (by omega) (by omega) (by omega)⟩
  have j_52 : ((x12.toInt + 1 ≤ 0) ∨ (0 ≤ x12.toInt ∧ v_longNow.toInt + 1 ≤ v_spot.toInt + x29.toInt)) → w_X12_isBack_52 p1 v_textNow v_inCase v_signs Q x12 x29 v_spot := by
    intro f55
    unfold w_X12_isBack_52
    exact j_53 0 (by omega) (by omega) (by omega) (by omega) (by omega)
  refine ⟨fun c32 => ?_, fun c32 => ?_⟩
  · have f56 : x12.toInt < 0 := i_lt (a := x12.toInt) (b := 0) rfl rfl c32
    exact j_52  (by omega)
  · have f57 : 0 ≤ x12.toInt := i_nlt (a := x12.toInt) (b := 0) rfl rfl c32
    intro x40 ex40
    have f58 : x40.toInt = v_spot.toInt + x29.toInt := i_add (a := v_spot.toInt) (b := x29.toInt) ex40 rfl rfl (by omega) (by omega)
    refine ⟨fun c45 => ?_, fun c45 => ?_⟩
    · have f59 : v_longNow.toInt < x40.toInt := i_lt (a := v_longNow.toInt) (b := x40.toInt) rfl rfl c45
      exact j_52  (by omega)
    · have f60 : x40.toInt ≤ v_longNow.toInt := i_nlt (a := v_longNow.toInt) (b := x40.toInt) rfl rfl c45
      exact j_53 1 (by omega) (by omega) (by omega) (by omega) (by omega)
set_option maxHeartbeats 4000000 in
theorem ok_X12_reach {p1 : Int32} {v_acts : Int32} {v_reached : Int64} {v_reachesEnd : Bool} {v_act : Nat → Int32} {v_actA : Nat → Int32} {v_labelAt : Nat → Int32} {v_eaterOf : Nat → Int32} {v_isGone : Nat → Bool} {v_walk : Nat → Int32} {Q : Int64 → Bool → (Nat → Bool) → (Nat → Int32) → Prop} (a0 : 0 ≤ v_acts.toInt) (a1 : v_acts.toInt ≤ 3000) (a2 : 0 ≤ p1.toInt) (a3 : p1.toInt + 1 ≤ v_acts.toInt) (u0 : zPg v_act v_actA v_labelAt v_acts.toInt) (hq : ∀ (ov_reached : Int64) (ov_reachesEnd : Bool) (ov_isGone : Nat → Bool) (ov_walk : Nat → Int32), Q ov_reached ov_reachesEnd ov_isGone ov_walk) : w_X12_reach p1 v_acts v_reached v_reachesEnd v_act v_actA v_labelAt v_eaterOf v_isGone v_walk Q := by
  have q_t : (bz true).toInt = 1 := rfl
  have q_f : (bz false).toInt = 0 := rfl
  have q_0 : (0 : Int32).toInt = 0 := rfl
  have q_1 : (1 : Int32).toInt = 1 := rfl
  unfold w_X12_reach
  have j_2 : ∀ n_2 : Nat, ∀ (l2_2 : Int32) (v_isGone_2 : Nat → Bool), l2_2.toInt ≤ v_acts.toInt → 0 ≤ l2_2.toInt → (zOff v_isGone_2 l2_2.toInt) → ((-1) * l2_2.toInt + 2147483648).toNat < n_2 → w_X12_reach_2 p1 v_acts v_act v_actA v_labelAt v_eaterOf Q v_reached v_reachesEnd v_walk n_2 l2_2 v_isGone_2 := by
    intro n_2
    induction n_2 with
    | zero =>
      intro l2_2 v_isGone_2 f1 f2 u2_0 hm_2
      exfalso; omega
    | succ n_2 ih_2 =>
      intro l2_2 v_isGone_2 f1 f2 u2_0 hm_2
      unfold w_X12_reach_2
      unfold w_X12_reach_2B
      refine ⟨fun c7 => ?_, fun c7 => ?_⟩
      · have f3 : v_acts.toInt ≤ l2_2.toInt := i_le (a := v_acts.toInt) (b := l2_2.toInt) rfl rfl c7
        have hof : zOff v_isGone_2 v_acts.toInt := fun j j0 j1 => u2_0 j j0 (by omega)
        intro g41 eg41
        have j_42 : ∀ n_42 : Nat, ∀ (l2_42 : Int32) (v_reached_42 : Int64) (v_reachesEnd_42 : Bool) (v_isGone_42 : Nat → Bool) (v_walk_42 : Nat → Int32) (gm_42 : Int), 0 ≤ l2_42.toInt → (zRe v_isGone_42 v_walk_42 v_acts.toInt l2_42.toInt gm_42) → (gm_42).toNat < n_42 → w_X12_reach_42 v_act v_actA v_labelAt v_eaterOf Q n_42 l2_42 v_reached_42 v_reachesEnd_42 v_isGone_42 v_walk_42 := by
          intro n_42
          induction n_42 with
          | zero =>
            intro l2_42 v_reached_42 v_reachesEnd_42 v_isGone_42 v_walk_42 gm_42 f4 u42_0 hm_42
            exfalso; omega
          | succ n_42 ih_42 =>
            intro l2_42 v_reached_42 v_reachesEnd_42 v_isGone_42 v_walk_42 gm_42 f4 u42_0 hm_42
            unfold w_X12_reach_42
            unfold w_X12_reach_42B
            refine ⟨fun c43 => ?_, fun c43 => ?_⟩
            · have f5 : l2_42.toInt ≤ 0 := i_le (a := l2_42.toInt) (b := 0) rfl rfl c43
              exact hq v_reached_42 v_reachesEnd_42 v_isGone_42 v_walk_42 
            · have f6 : 0 < l2_42.toInt := i_nle (a := l2_42.toInt) (b := 0) rfl rfl c43
              have hc9 := zcB_ub (f := v_isGone_42) (n := v_acts.toInt) (by omega)
              have hb9 := u42_0.2.2.1
              have hd9 := u42_0.2.2.2
              have f7 : l2_42.toInt ≤ 3001 := by omega
              intro x46 ex46
              have f8 : x46.toInt = l2_42.toInt + (-1) := i_add (a := l2_42.toInt) (b := (-1)) ex46 rfl rfl (by omega) (by omega)
              refine ⟨i_in (by omega) (by omega), ?_⟩
              intro x54 ex54
              have f9 : (0 ≤ x54.toInt ∧ x54.toInt + 1 ≤ v_acts.toInt) := by rw [zg_at ex54]; exact u42_0.1 _ (by omega) (by omega)
              refine ⟨i_in (by omega) (by omega), ?_⟩
              intro x61 ex61
              have f10 : (0 ≤ x61.toInt ∧ x61.toInt ≤ 1) := i_bz ex61
              have j_192 : ∀ (l2_192 : Int32) (v_reached_192 : Int64) (v_reachesEnd_192 : Bool) (v_isGone_192 : Nat → Bool) (v_walk_192 : Nat → Int32), l2_42.toInt ≤ l2_192.toInt + 1 → l2_192.toInt ≤ l2_42.toInt + 1 → (zRe v_isGone_192 v_walk_192 v_acts.toInt l2_192.toInt (gm_42 - 1)) → w_X12_reach_192 Q (w_X12_reach_42 v_act v_actA v_labelAt v_eaterOf Q n_42) l2_192 v_reached_192 v_reachesEnd_192 v_isGone_192 v_walk_192 := by
                intro l2_192 v_reached_192 v_reachesEnd_192 v_isGone_192 v_walk_192 f11 f12 u192_0
                unfold w_X12_reach_192
                exact ih_42 l2_192 v_reached_192 v_reachesEnd_192 v_isGone_192 v_walk_192 (gm_42 - 1) (by omega) (by first | assumption | exact zRe_0 eg41 (by omega) hof (by omega)) (by omega)
              refine ⟨fun c62 => ?_, fun c62 => ?_⟩
              · have f13 : x61.toInt ≠ 0 := i_ne (a := x61.toInt) (b := 0) rfl rfl c62
                exact j_192 x46 v_reached_42 v_reachesEnd_42 v_isGone_42 v_walk_42 (by omega) (by omega) (by first | exact zRe_new u42_0 ex61 (by omega) eg71 (by decide) (by omega) (by omega) (zWk_w u142_0 eg188 rfl (by omega) (by omega) (by omega)) (by omega) (by omega) rfl | exact zRe_new u42_0 ex61 (by omega) eg71 (by decide) (by omega) (by omega) u142_0 (by omega) (by omega) rfl | exact zRe_new u42_0 ex61 (by omega) eg71 (by decide) (by omega) (by omega) (zWk_m u42_0.1 (by omega)) (by omega) (by omega) rfl | exact zRe_gone u42_0 (by omega) (by omega) rfl)
              · have f14 : x61.toInt = 0 := i_eq (a := x61.toInt) (b := 0) rfl rfl c62
                refine ⟨i_in (by omega) (by omega), ?_⟩
                intro g71 eg71
                refine ⟨i_in (by omega) (by omega), ?_⟩
                intro x77 ex77
                refine ⟨fun c78 => ?_, fun c78 => ?_⟩
                · have f15 : x77.toInt ≠ 0 := i_ne (a := x77.toInt) (b := 0) rfl rfl c78
                  refine ⟨i_in (by omega) (by omega), ?_⟩
                  intro x106 ex106
                  have f16 : x106.toInt = x77.toInt := congrArg Int32.toInt (ex106.trans ex77.symm)
                  refine ⟨fun c109 => ?_, fun c109 => ?_⟩
                  · have f17 : x106.toInt ≠ 19 := i_ne (a := x106.toInt) (b := 19) rfl rfl c109
                    refine ⟨i_in (by omega) (by omega), ?_⟩
                    intro x125 ex125
                    have f18 : x125.toInt = x77.toInt := congrArg Int32.toInt (ex125.trans ex77.symm)
                    have j_142 : ∀ (l2_142 : Int32) (v_walk_142 : Nat → Int32), l2_42.toInt ≤ l2_142.toInt + 1 → l2_142.toInt ≤ l2_42.toInt → ((l2_142.toInt = x46.toInt ∧ x125.toInt = 5) ∨ (l2_142.toInt = x46.toInt + 1)) → (zWk v_walk_142 l2_142.toInt v_acts.toInt) → (0 ≤ l2_142.toInt ∧ l2_142.toInt ≤ l2_42.toInt) → w_X12_reach_142 v_act v_actA v_labelAt Q (w_X12_reach_42 v_act v_actA v_labelAt v_eaterOf Q n_42) l2_142 x54 v_reached_42 v_reachesEnd_42 g71 v_walk_142 := by
                      intro l2_142 v_walk_142 f19 f20 f21 u142_0 u142_1
                      unfold w_X12_reach_142
                      refine ⟨i_in (by omega) (by omega), ?_⟩
                      intro x147 ex147
                      have f22 : x147.toInt = x77.toInt := congrArg Int32.toInt (ex147.trans ex77.symm)
                      have j_172 : ((x147.toInt = 5) ∨ (x77.toInt = 3) ∨ (x77.toInt = 4)) → (3 ≤ x147.toInt ∧ x147.toInt ≤ 5) → w_X12_reach_172 v_actA v_labelAt Q (w_X12_reach_42 v_act v_actA v_labelAt v_eaterOf Q n_42) l2_142 x54 v_reached_42 v_reachesEnd_42 g71 v_walk_142 := by
                        intro f23 u172_0
                        unfold w_X12_reach_172
                        refine ⟨i_in (by omega) (by omega), ?_⟩
                        intro x186 ex186
                        have f24 : (0 ≤ x186.toInt ∧ x186.toInt ≤ 2999) := by have h9 := (zPg_l u0 ex147 ex186 (by omega) (by omega) (by omega)).1; omega
                        refine ⟨i_in (by omega) (by omega), ?_⟩
                        intro x187 ex187
                        have f25 : (0 ≤ x187.toInt ∧ x187.toInt + 1 ≤ v_acts.toInt) := by rw [zg_at ex187]; exact (zPg_l u0 ex147 ex186 (by omega) (by omega) (by omega)).2
                        refine ⟨i_in (by omega) (by omega), ?_⟩
                        intro g188 eg188
                        intro x189 ex189
                        have f26 : x189.toInt = l2_142.toInt + 1 := i_add (a := l2_142.toInt) (b := 1) ex189 rfl rfl (by omega) (by omega)
                        exact j_192 x189 v_reached_42 v_reachesEnd_42 g71 g188 (by omega) (by omega) (by first | exact zRe_new u42_0 ex61 (by omega) eg71 (by decide) (by omega) (by omega) (zWk_w u142_0 eg188 rfl (by omega) (by omega) (by omega)) (by omega) (by omega) rfl | exact zRe_new u42_0 ex61 (by omega) eg71 (by decide) (by omega) (by omega) u142_0 (by omega) (by omega) rfl | exact zRe_new u42_0 ex61 (by omega) eg71 (by decide) (by omega) (by omega) (zWk_m u42_0.1 (by omega)) (by omega) (by omega) rfl | exact zRe_gone u42_0 (by omega) (by omega) rfl)
                      refine ⟨fun c149 => ?_, fun c149 => ?_⟩
                      · have f27 : x147.toInt = 5 := i_eq (a := x147.toInt) (b := 5) rfl rfl c149
                        exact j_172  (by omega) (by omega)
                      · have f28 : x147.toInt ≠ 5 := i_ne (a := x147.toInt) (b := 5) rfl rfl c149
                        refine ⟨i_in (by omega) (by omega), ?_⟩
                        intro x157 ex157
                        have f29 : x157.toInt = x77.toInt := congrArg Int32.toInt (ex157.trans ex77.symm)
                        refine ⟨fun c159 => ?_, fun c159 => ?_⟩
                        · have f30 : x157.toInt = 3 := i_eq (a := x157.toInt) (b := 3) rfl rfl c159
                          exact j_172  (by omega) (by omega)
                        · have f31 : x157.toInt ≠ 3 := i_ne (a := x157.toInt) (b := 3) rfl rfl c159
                          refine ⟨i_in (by omega) (by omega), ?_⟩
                          intro x167 ex167
                          have f32 : x167.toInt = x77.toInt := congrArg Int32.toInt (ex167.trans ex77.symm)
                          refine ⟨fun c169 => ?_, fun c169 => ?_⟩
                          · have f33 : x167.toInt ≠ 4 := i_ne (a := x167.toInt) (b := 4) rfl rfl c169
                            exact j_192 l2_142 v_reached_42 v_reachesEnd_42 g71 v_walk_142 (by omega) (by omega) (by first | exact zRe_new u42_0 ex61 (by omega) eg71 (by decide) (by omega) (by omega) (zWk_w u142_0 eg188 rfl (by omega) (by omega) (by omega)) (by omega) (by omega) rfl | exact zRe_new u42_0 ex61 (by omega) eg71 (by decide) (by omega) (by omega) u142_0 (by omega) (by omega) rfl | exact zRe_new u42_0 ex61 (by omega) eg71 (by decide) (by omega) (by omega) (zWk_m u42_0.1 (by omega)) (by omega) (by omega) rfl | exact zRe_gone u42_0 (by omega) (by omega) rfl)
                          · have f34 : x167.toInt = 4 := i_eq (a := x167.toInt) (b := 4) rfl rfl c169
                            exact j_172  (by omega) (by omega)
                    refine ⟨fun c127 => ?_, fun c127 => ?_⟩
                    · have f35 : x125.toInt = 5 := i_eq (a := x125.toInt) (b := 5) rfl rfl c127
                      exact j_142 x46 v_walk_42 (by omega) (by omega) (by omega) (by first | exact zWk_w (zWk_m u42_0.1 (by omega)) eg138 rfl (by omega) (by omega) (by omega) | exact zWk_m u42_0.1 (by omega)) (by omega)
                    · have f36 : x125.toInt ≠ 5 := i_ne (a := x125.toInt) (b := 5) rfl rfl c127
                      have hn9 := zPg_n u0 ex106 (by omega) (by omega) (by omega)
                      intro x137 ex137
                      have f37 : x137.toInt = x54.toInt + 1 := i_add (a := x54.toInt) (b := 1) ex137 rfl rfl (by omega) (by omega)
                      refine ⟨i_in (by omega) (by omega), ?_⟩
                      intro g138 eg138
                      intro x139 ex139
                      have f38 : x139.toInt = x46.toInt + 1 := i_add (a := x46.toInt) (b := 1) ex139 rfl rfl (by omega) (by omega)
                      exact j_142 x139 g138 (by omega) (by omega) (by omega) (by first | exact zWk_w (zWk_m u42_0.1 (by omega)) eg138 rfl (by omega) (by omega) (by omega) | exact zWk_m u42_0.1 (by omega)) (by omega)
                  · have f39 : x106.toInt = 19 := i_eq (a := x106.toInt) (b := 19) rfl rfl c109
                    exact j_192 x46 v_reached_42 true g71 v_walk_42 (by omega) (by omega) (by first | exact zRe_new u42_0 ex61 (by omega) eg71 (by decide) (by omega) (by omega) (zWk_w u142_0 eg188 rfl (by omega) (by omega) (by omega)) (by omega) (by omega) rfl | exact zRe_new u42_0 ex61 (by omega) eg71 (by decide) (by omega) (by omega) u142_0 (by omega) (by omega) rfl | exact zRe_new u42_0 ex61 (by omega) eg71 (by decide) (by omega) (by omega) (zWk_m u42_0.1 (by omega)) (by omega) (by omega) rfl | exact zRe_gone u42_0 (by omega) (by omega) rfl)
                · have f40 : x77.toInt = 0 := i_eq (a := x77.toInt) (b := 0) rfl rfl c78
                  refine ⟨i_in (by omega) (by omega), ?_⟩
                  intro x92 ex92
                  intro y93 ey93
                  intro y94 ey94
                  exact j_192 x46 y94 v_reachesEnd_42 g71 v_walk_42 (by omega) (by omega) (by first | exact zRe_new u42_0 ex61 (by omega) eg71 (by decide) (by omega) (by omega) (zWk_w u142_0 eg188 rfl (by omega) (by omega) (by omega)) (by omega) (by omega) rfl | exact zRe_new u42_0 ex61 (by omega) eg71 (by decide) (by omega) (by omega) u142_0 (by omega) (by omega) rfl | exact zRe_new u42_0 ex61 (by omega) eg71 (by decide) (by omega) (by omega) (zWk_m u42_0.1 (by omega)) (by omega) (by omega) rfl | exact zRe_gone u42_0 (by omega) (by omega) rfl)
        exact ⟨((2 * v_acts.toInt + 1)).toNat + 1, j_42   (((2 * v_acts.toInt + 1)).toNat + 1) 1 0 false v_isGone_2 g41 (2 * v_acts.toInt + 1) (by omega) (by first | assumption | exact zRe_0 eg41 (by omega) hof (by omega)) (by omega)⟩
      · have f41 : l2_2.toInt < v_acts.toInt := i_nle (a := v_acts.toInt) (b := l2_2.toInt) rfl rfl c7
        refine ⟨i_in (by omega) (by omega), ?_⟩
        intro g16 eg16
        intro x17 ex17
        have f42 : x17.toInt = l2_2.toInt + 1 := i_add (a := l2_2.toInt) (b := 1) ex17 rfl rfl (by omega) (by omega)
        exact ih_2 x17 g16  (by omega) (by omega) (by first | exact zOff_s u2_0 eg16 (by decide) (by omega) (by omega) | exact zOff_0) (by have h8_0 := i_rng l2_2; have h8_1 := i_rng x17; omega)
  exact ⟨(2147483648 : Int).toNat + 1, j_2   ((2147483648 : Int).toNat + 1) 0 v_isGone  (by omega) (by omega) (by first | exact zOff_s u2_0 eg16 (by decide) (by omega) (by omega) | exact zOff_0) (by omega)⟩
set_option maxHeartbeats 4000000 in
theorem ok_X12_beginTurn {p1 : Int32} {v_trail : Int32} {v_now : Int32} {v_spot : Int32} {v_steps : Int32} {v_limit : Int32} {v_isOver : Bool} {v_reg : Nat → Int32} {v_trailOf : Nat → Int32} {v_trailOld : Nat → Int32} {gPP : Int → Int → Int → (Int → Int) → Int → Int → Prop} {gOm : Int → Int → Int} {gS : Int} {v_choiceSort : Nat → Int32} {v_choiceAct : Nat → Int32} {v_choicePlace : Nat → Int32} {v_choiceTrail : Nat → Int32} {v_choices : Int32} {Q : Int32 → Int32 → Int32 → Bool → (Nat → Int32) → (Nat → Int32) → (Nat → Int32) → Prop} (a0 : 0 ≤ p1.toInt) (a1 : p1.toInt ≤ 219) (a2 : 0 ≤ v_trail.toInt) (a3 : v_trail.toInt ≤ 119998) (a4 : 0 ≤ v_steps.toInt) (a5 : v_steps.toInt ≤ 2147483646) (a6 : v_steps.toInt ≤ v_limit.toInt) (a7 : 0 ≤ v_now.toInt) (a8 : v_now.toInt ≤ 2998) (b0 : rp (fun k v => 0 ≤ v ∧ v ≤ 1129) v_trailOf 0 v_trail.toInt) (u0 : zCs gPP gOm v_trailOf v_trailOld v_choiceSort v_choiceAct v_choicePlace v_choiceTrail v_trail.toInt v_choices.toInt (zG v_reg) gS) (hq : ∀ (ov_trail : Int32) (ov_now : Int32) (ov_steps : Int32) (ov_isOver : Bool) (ov_reg : Nat → Int32) (ov_trailOf : Nat → Int32) (ov_trailOld : Nat → Int32), 0 ≤ (bz ov_isOver).toInt → (bz ov_isOver).toInt ≤ 1 → (((bz ov_isOver).toInt = 1) ∨ (v_steps.toInt + 1 ≤ v_limit.toInt)) → (((bz ov_isOver).toInt = 0) ∨ ((bz ov_isOver).toInt = 1 ∧ v_steps.toInt = v_limit.toInt)) → v_steps.toInt ≤ ov_steps.toInt → ov_steps.toInt ≤ v_steps.toInt + 1 → ((ov_steps.toInt = v_steps.toInt + 1) ∨ ((bz ov_isOver).toInt = 1)) → ((ov_steps.toInt = v_steps.toInt) ∨ ((bz ov_isOver).toInt = 0)) → ((ov_steps.toInt = v_steps.toInt + 1 ∧ (bz ov_isOver).toInt = 0) ∨ (ov_steps.toInt = v_steps.toInt)) → v_trail.toInt ≤ ov_trail.toInt → v_now.toInt ≤ ov_now.toInt → ov_trail.toInt ≤ v_trail.toInt + 2 → ov_now.toInt ≤ v_now.toInt + 1 → rp (fun k v => 0 ≤ v ∧ v ≤ 1129) ov_trailOf 0 v_trail.toInt → rp (fun k v => 0 ≤ v ∧ v ≤ 1129) ov_trailOf 0 ov_trail.toInt → (zBT gPP gOm v_reg v_trailOf v_trailOld ov_reg ov_trailOf ov_trailOld v_choiceSort v_choiceAct v_choicePlace v_choiceTrail v_trail.toInt ov_trail.toInt v_choices.toInt p1.toInt v_now.toInt ov_now.toInt v_spot.toInt gS ov_isOver) → Q ov_trail ov_now ov_steps ov_isOver ov_reg ov_trailOf ov_trailOld) : w_X12_beginTurn p1 v_trail v_now v_spot v_steps v_limit v_isOver v_reg v_trailOf v_trailOld Q := by
  have q_t : (bz true).toInt = 1 := rfl
  have q_f : (bz false).toInt = 0 := rfl
  unfold w_X12_beginTurn
  refine ok_X12_isStep (by omega) (by omega) (by omega) (fun r1 r1_0 r1_1 f1 f2 f3 f4 f5 f6 f7 f8 f9 f10 f11 f12 f13 f14 => ?_)
  have j_49 : ∀ (v_trail_49 : Int32) (v_now_49 : Int32) (v_reg_49 : Nat → Int32) (v_trailOf_49 : Nat → Int32) (v_trailOld_49 : Nat → Int32), v_trail.toInt ≤ v_trail_49.toInt → v_now.toInt ≤ v_now_49.toInt → v_trail_49.toInt ≤ v_trail.toInt + 2 → v_now_49.toInt ≤ v_now.toInt + 1 → ((v_trail_49.toInt = v_trail.toInt ∧ v_now_49.toInt = v_now.toInt ∧ r1.toInt = 0) ∨ (v_now_49.toInt = v_now.toInt + 1)) → rp (fun k v => 0 ≤ v ∧ v ≤ 1129) v_trailOf_49 0 v_trail.toInt → rp (fun k v => 0 ≤ v ∧ v ≤ 1129) v_trailOf_49 0 v_trail_49.toInt → (zBT gPP gOm v_reg v_trailOf v_trailOld v_reg_49 v_trailOf_49 v_trailOld_49 v_choiceSort v_choiceAct v_choicePlace v_choiceTrail v_trail.toInt v_trail_49.toInt v_choices.toInt p1.toInt v_now.toInt v_now_49.toInt v_spot.toInt gS r1_1) → w_X12_beginTurn_49 Q v_trail_49 v_now_49 r1_0 r1_1 v_reg_49 v_trailOf_49 v_trailOld_49 := by
    intro v_trail_49 v_now_49 v_reg_49 v_trailOf_49 v_trailOld_49 f15 f16 f17 f18 f19 h20 h21 u49_0
    unfold w_X12_beginTurn_49
    exact hq v_trail_49 v_now_49 r1_0 r1_1 v_reg_49 v_trailOf_49 v_trailOld_49 (by omega) (by omega) (by omega) (by omega) (by omega) (by omega) (by omega) (by omega) (by omega) (by omega) (by omega) (by omega) (by omega) (rp_mono h21 (by omega) (by omega)) (rp_mono h21 (by omega) (by omega)) (by assumption)
  refine ⟨fun c4 => ?_, fun c4 => ?_⟩
  · have f22 : r1.toInt = 0 := i_eq (a := r1.toInt) (b := 0) rfl rfl c4
    exact j_49 v_trail v_now v_reg v_trailOf v_trailOld (by omega) (by omega) (by omega) (by omega) (by omega) (rp_mono b0 (by omega) (by omega)) (rp_mono b0 (by omega) (by omega)) (by first | exact zBT_y u0 u23_0 u36_0 (zbz0 (by omega)) (by omega) (by omega) (by omega) (by omega) (by omega) (by omega) (by omega) (by omega) | exact Or.inl (zbz1 (by omega)))
  · have f23 : r1.toInt ≠ 0 := i_ne (a := r1.toInt) (b := 0) rfl rfl c4
    intro x11 ex11
    have f24 : x11.toInt = 30 + p1.toInt := i_add (a := 30) (b := p1.toInt) ex11 rfl rfl (by omega) (by omega)
    intro x19 ex19
    have f25 : x19.toInt = 30 + p1.toInt := i_add (a := 30) (b := p1.toInt) ex19 rfl rfl (by omega) (by omega)
    refine ⟨i_in (by omega) (by omega), ?_⟩
    intro x20 ex20
    intro x22 ex22
    refine ok_X12_set (by omega) (by omega) (by omega) (by omega) (rp_mono b0 (by omega) (by omega)) (fun r23_0 r23_1 r23_2 r23_3 f26 f27 f28 h29 h30 u23_0 => ?_)
    intro x31 ex31
    have f31 : x31.toInt = 250 + p1.toInt := i_add (a := 250) (b := p1.toInt) ex31 rfl rfl (by omega) (by omega)
    refine ok_X12_set (by omega) (by omega) (by omega) (by omega) (rp_mono h30 (by omega) (by omega)) (fun r36_0 r36_1 r36_2 r36_3 f32 f33 f34 h35 h36 u36_0 => ?_)
    intro x45 ex45
    have f37 : x45.toInt = v_now.toInt + 1 := i_add (a := v_now.toInt) (b := 1) ex45 rfl rfl (by omega) (by omega)
    exact j_49 r36_0 x45 r36_1 r36_2 r36_3 (by omega) (by omega) (by omega) (by omega) (by omega) (rp_mono h36 (by omega) (by omega)) (rp_mono h36 (by omega) (by omega)) (by first | exact zBT_y u0 u23_0 u36_0 (zbz0 (by omega)) (by omega) (by omega) (by omega) (by omega) (by omega) (by omega) (by omega) (by omega) | exact Or.inl (zbz1 (by omega)))
set_option maxHeartbeats 4000000 in
theorem ok_X12_tryBehind {p1 : Int32} {p2 : Int32} {v_trail : Int32} {v_choices : Int32} {v_now : Int32} {v_spot : Int32} {v_steps : Int32} {v_limit : Int32} {v_isOver : Bool} {v_reg : Nat → Int32} {v_trailOf : Nat → Int32} {v_trailOld : Nat → Int32} {v_choiceSort : Nat → Int32} {v_choiceAct : Nat → Int32} {v_choicePlace : Nat → Int32} {v_choiceTrail : Nat → Int32} {gPP : Int → Int → Int → (Int → Int) → Int → Int → Prop} {gOm : Int → Int → Int} {gS : Int} {Q : Int32 → Int32 → Int32 → Int32 → Int32 → Bool → (Nat → Int32) → (Nat → Int32) → (Nat → Int32) → (Nat → Int32) → (Nat → Int32) → (Nat → Int32) → (Nat → Int32) → Prop} (a0 : 0 ≤ p1.toInt) (a1 : p1.toInt ≤ 219) (a2 : 0 ≤ v_trail.toInt) (a3 : v_trail.toInt ≤ 119999) (a4 : 0 ≤ v_choices.toInt) (a5 : v_choices.toInt ≤ 199999) (a6 : 0 ≤ v_steps.toInt) (a7 : v_steps.toInt ≤ 2147483646) (a8 : v_steps.toInt ≤ v_limit.toInt) (a9 : 0 ≤ v_now.toInt) (a10 : v_now.toInt ≤ 2998) (a11 : 0 ≤ p2.toInt) (a12 : p2.toInt ≤ 100) (b0 : rp (fun k v => 0 ≤ v ∧ v ≤ 1129) v_trailOf 0 v_trail.toInt) (u0 : zCs gPP gOm v_trailOf v_trailOld v_choiceSort v_choiceAct v_choicePlace v_choiceTrail v_trail.toInt v_choices.toInt (zG v_reg) gS) (u1 : ∀ t9 : Int, v_trail.toInt ≤ t9 → t9 ≤ v_trail.toInt + 1 → 0 < p2.toInt → gPP 2 v_now.toInt v_spot.toInt (zfs (zG v_reg) (910 + p1.toInt) p2.toInt) v_choices.toInt t9) (hq : ∀ (ov_trail : Int32) (ov_choices : Int32) (ov_now : Int32) (ov_spot : Int32) (ov_steps : Int32) (ov_isOver : Bool) (ov_reg : Nat → Int32) (ov_trailOf : Nat → Int32) (ov_trailOld : Nat → Int32) (ov_choiceSort : Nat → Int32) (ov_choiceAct : Nat → Int32) (ov_choicePlace : Nat → Int32) (ov_choiceTrail : Nat → Int32), 0 ≤ (bz ov_isOver).toInt → (bz ov_isOver).toInt ≤ 1 → (((bz ov_isOver).toInt = 1) ∨ (v_steps.toInt + 1 ≤ v_limit.toInt)) → (((bz ov_isOver).toInt = 0) ∨ ((bz ov_isOver).toInt = 1 ∧ v_steps.toInt = v_limit.toInt)) → v_steps.toInt ≤ ov_steps.toInt → ov_steps.toInt ≤ v_steps.toInt + 1 → ((ov_steps.toInt = v_steps.toInt + 1) ∨ ((bz ov_isOver).toInt = 1)) → ((ov_steps.toInt = v_steps.toInt) ∨ ((bz ov_isOver).toInt = 0)) → ((ov_steps.toInt = v_steps.toInt + 1 ∧ (bz ov_isOver).toInt = 0) ∨ (ov_steps.toInt = v_steps.toInt)) → v_trail.toInt ≤ ov_trail.toInt → v_choices.toInt ≤ ov_choices.toInt → v_now.toInt ≤ ov_now.toInt → ov_trail.toInt ≤ v_trail.toInt + 1 → ov_choices.toInt ≤ v_choices.toInt + 1 → ov_now.toInt ≤ v_now.toInt + 1 → rp (fun k v => 0 ≤ v ∧ v ≤ 1129) ov_trailOf 0 v_trail.toInt → rp (fun k v => 0 ≤ v ∧ v ≤ 1129) ov_trailOf 0 ov_trail.toInt → (zTB gPP gOm v_reg ov_reg ov_trailOf ov_trailOld ov_choiceSort ov_choiceAct ov_choicePlace ov_choiceTrail v_trail.toInt ov_trail.toInt v_choices.toInt ov_choices.toInt p1.toInt p2.toInt v_now.toInt ov_now.toInt ov_spot.toInt gS ov_isOver) → Q ov_trail ov_choices ov_now ov_spot ov_steps ov_isOver ov_reg ov_trailOf ov_trailOld ov_choiceSort ov_choiceAct ov_choicePlace ov_choiceTrail) : w_X12_tryBehind p1 p2 v_trail v_choices v_now v_spot v_steps v_limit v_isOver v_reg v_trailOf v_trailOld v_choiceSort v_choiceAct v_choicePlace v_choiceTrail Q := by
  have q_t : (bz true).toInt = 1 := rfl
  have q_f : (bz false).toInt = 0 := rfl
  have q_2 : (2 : Int32).toInt = 2 := rfl
  unfold w_X12_tryBehind
  refine ok_X12_isStep (by omega) (by omega) (by omega) (fun r1 r1_0 r1_1 f1 f2 f3 f4 f5 f6 f7 f8 f9 f10 f11 f12 f13 f14 => ?_)
  have j_49 : ∀ (v_trail_49 : Int32) (v_choices_49 : Int32) (v_now_49 : Int32) (v_spot_49 : Int32) (v_reg_49 : Nat → Int32) (v_trailOf_49 : Nat → Int32) (v_trailOld_49 : Nat → Int32) (v_choiceSort_49 : Nat → Int32) (v_choiceAct_49 : Nat → Int32) (v_choicePlace_49 : Nat → Int32) (v_choiceTrail_49 : Nat → Int32), v_trail.toInt ≤ v_trail_49.toInt → v_choices.toInt ≤ v_choices_49.toInt → v_now.toInt ≤ v_now_49.toInt → v_trail_49.toInt ≤ v_trail.toInt + 1 → v_choices_49.toInt ≤ v_choices.toInt + 1 → v_now_49.toInt ≤ v_now.toInt + 1 → rp (fun k v => 0 ≤ v ∧ v ≤ 1129) v_trailOf_49 0 v_trail.toInt → rp (fun k v => 0 ≤ v ∧ v ≤ 1129) v_trailOf_49 0 v_trail_49.toInt → (zTB gPP gOm v_reg v_reg_49 v_trailOf_49 v_trailOld_49 v_choiceSort_49 v_choiceAct_49 v_choicePlace_49 v_choiceTrail_49 v_trail.toInt v_trail_49.toInt v_choices.toInt v_choices_49.toInt p1.toInt p2.toInt v_now.toInt v_now_49.toInt v_spot_49.toInt gS r1_1) → w_X12_tryBehind_49 Q v_trail_49 v_choices_49 v_now_49 v_spot_49 r1_0 r1_1 v_reg_49 v_trailOf_49 v_trailOld_49 v_choiceSort_49 v_choiceAct_49 v_choicePlace_49 v_choiceTrail_49 := by
    intro v_trail_49 v_choices_49 v_now_49 v_spot_49 v_reg_49 v_trailOf_49 v_trailOld_49 v_choiceSort_49 v_choiceAct_49 v_choicePlace_49 v_choiceTrail_49 f15 f16 f17 f18 f19 f20 h21 h22 u49_0
    unfold w_X12_tryBehind_49
    exact hq v_trail_49 v_choices_49 v_now_49 v_spot_49 r1_0 r1_1 v_reg_49 v_trailOf_49 v_trailOld_49 v_choiceSort_49 v_choiceAct_49 v_choicePlace_49 v_choiceTrail_49 (by omega) (by omega) (by omega) (by omega) (by omega) (by omega) (by omega) (by omega) (by omega) (by omega) (by omega) (by omega) (by omega) (by omega) (by omega) (rp_mono h22 (by omega) (by omega)) (rp_mono h22 (by omega) (by omega)) (by assumption)
  refine ⟨fun c4 => ?_, fun c4 => ?_⟩
  · have f23 : r1.toInt = 0 := i_eq (a := r1.toInt) (b := 0) rfl rfl c4
    exact j_49 v_trail v_choices v_now v_spot v_reg v_trailOf v_trailOld v_choiceSort v_choiceAct v_choicePlace v_choiceTrail (by omega) (by omega) (by omega) (by omega) (by omega) (by omega) (rp_mono b0 (by omega) (by omega)) (rp_mono b0 (by omega) (by omega)) (by first | exact Or.inr ⟨zbz0 (by omega), by omega, rfl, by omega, by omega, by omega, by omega, by rw [hcs.2, h910], u34_0⟩ | exact Or.inl (zbz1 (by omega)))
  · have f24 : r1.toInt ≠ 0 := i_ne (a := r1.toInt) (b := 0) rfl rfl c4
    intro x12 ex12
    have f25 : x12.toInt = 910 + p1.toInt := i_add (a := 910) (b := p1.toInt) ex12 rfl rfl (by omega) (by omega)
    refine ok_X12_set (by omega) (by omega) (by omega) (by omega) (rp_mono b0 (by omega) (by omega)) (fun r14_0 r14_1 r14_2 r14_3 f26 f27 f28 h29 h30 u14_0 => ?_)
    have hcs := zCs_st u0 u14_0 (by omega) (by omega)
    have h910 : x12.toInt = 910 + p1.toInt := by omega
    have j_34 : ∀ (v_choices_34 : Int32) (v_choiceSort_34 : Nat → Int32) (v_choiceAct_34 : Nat → Int32) (v_choicePlace_34 : Nat → Int32) (v_choiceTrail_34 : Nat → Int32), v_choices.toInt ≤ v_choices_34.toInt → v_choices_34.toInt ≤ v_choices.toInt + 1 → ((v_choices_34.toInt = v_choices.toInt ∧ p2.toInt ≤ 0) ∨ (1 ≤ p2.toInt ∧ v_choices_34.toInt = v_choices.toInt + 1)) → ((v_choices_34.toInt = v_choices.toInt ∧ zCs gPP gOm r14_2 r14_3 v_choiceSort_34 v_choiceAct_34 v_choicePlace_34 v_choiceTrail_34 r14_0.toInt v_choices_34.toInt (zG r14_1) gS) ∨ (v_choices_34.toInt = v_choices.toInt + 1 ∧ zCs gPP gOm r14_2 r14_3 v_choiceSort_34 v_choiceAct_34 v_choicePlace_34 v_choiceTrail_34 r14_0.toInt v_choices_34.toInt (zG r14_1) (gS + gOm 2 v_now.toInt))) → w_X12_tryBehind_34 p2 Q r14_0 v_choices_34 v_now v_spot r1_0 r1_1 r14_1 r14_2 r14_3 v_choiceSort_34 v_choiceAct_34 v_choicePlace_34 v_choiceTrail_34 := by
      intro v_choices_34 v_choiceSort_34 v_choiceAct_34 v_choicePlace_34 v_choiceTrail_34 f31 f32 f33 u34_0
      unfold w_X12_tryBehind_34
      intro x45 ex45
      have f34 : x45.toInt = v_now.toInt + 1 := i_add (a := v_now.toInt) (b := 1) ex45 rfl rfl (by omega) (by omega)
      exact j_49 r14_0 v_choices_34 x45 p2 r14_1 r14_2 r14_3 v_choiceSort_34 v_choiceAct_34 v_choicePlace_34 v_choiceTrail_34 (by omega) (by omega) (by omega) (by omega) (by omega) (by omega) (rp_mono h30 (by omega) (by omega)) (rp_mono h30 (by omega) (by omega)) (by first | exact Or.inr ⟨zbz0 (by omega), by omega, rfl, by omega, by omega, by omega, by omega, by rw [hcs.2, h910], u34_0⟩ | exact Or.inl (zbz1 (by omega)))
    refine ⟨fun c18 => ?_, fun c18 => ?_⟩
    · have f35 : p2.toInt ≤ 0 := i_le (a := p2.toInt) (b := 0) rfl rfl c18
      exact j_34 v_choices v_choiceSort v_choiceAct v_choicePlace v_choiceTrail (by omega) (by omega) (by omega) (by first | exact Or.inl ⟨by omega, hcs.1⟩ | exact Or.inr ⟨by omega, zCs_ch hcs.1 u31_0 u31_1 u31_2 u31_3 (by omega) (by omega) (by rw [hcs.2, h910]; exact u1 _ (by omega) (by omega) (by omega)) (by omega)⟩)
    · have f36 : 0 < p2.toInt := i_nle (a := p2.toInt) (b := 0) rfl rfl c18
      refine ok_X12_choose (by omega) (by omega) (fun r31_0 r31_1 r31_2 r31_3 r31_4 f37 u31_0 u31_1 u31_2 u31_3 => ?_)
      exact j_34 r31_0 r31_1 r31_2 r31_3 r31_4 (by omega) (by omega) (by omega) (by first | exact Or.inl ⟨by omega, hcs.1⟩ | exact Or.inr ⟨by omega, zCs_ch hcs.1 u31_0 u31_1 u31_2 u31_3 (by omega) (by omega) (by rw [hcs.2, h910]; exact u1 _ (by omega) (by omega) (by omega)) (by omega)⟩)
set_option maxHeartbeats 4000000 in
theorem ok_X12_testLoop {p1 : Int32} {p2 : Int32} {v_trail : Int32} {v_choices : Int32} {v_now : Int32} {v_spot : Int32} {v_slotNow : Int32} {v_steps : Int32} {v_limit : Int32} {v_isOver : Bool} {v_value : Nat → Int32} {v_least : Nat → Int32} {v_most : Nat → Int32} {v_labelAt : Nat → Int32} {v_reg : Nat → Int32} {v_trailOf : Nat → Int32} {v_trailOld : Nat → Int32} {v_choiceSort : Nat → Int32} {v_choiceAct : Nat → Int32} {v_choicePlace : Nat → Int32} {v_choiceTrail : Nat → Int32} {gfi : Int} {gC : Int → zT} {gN : Int} {gfr : Int} {glg : Int} {gb1 : Int} {gb2 : Int} {gg : Int} {gPsi : Int} {gbs : Int} {gn9 : Int} {v_act : Nat → Int32} {v_actA : Nat → Int32} {v_actB : Nat → Int32} {v_sort : Nat → Int32} {Q : Int32 → Int32 → Int32 → Int32 → Bool → (Nat → Int32) → (Nat → Int32) → (Nat → Int32) → (Nat → Int32) → (Nat → Int32) → (Nat → Int32) → (Nat → Int32) → Prop} (a0 : 0 ≤ v_trail.toInt) (a1 : v_trail.toInt ≤ 119990) (a2 : 0 ≤ v_choices.toInt) (a3 : v_choices.toInt ≤ 199990) (a4 : 0 ≤ v_now.toInt) (a5 : v_now.toInt ≤ 2998) (a6 : 0 ≤ v_steps.toInt) (a7 : v_steps.toInt ≤ 2000000) (a8 : v_steps.toInt ≤ v_limit.toInt) (a9 : 0 ≤ p1.toInt) (a10 : p1.toInt ≤ 219) (a11 : 0 ≤ p2.toInt) (a12 : p2.toInt ≤ 2999) (a13 : 0 ≤ v_slotNow.toInt) (a14 : v_slotNow.toInt ≤ 1100) (b0 : rp (fun k v => 0 ≤ v ∧ v ≤ 1129) v_trailOf 0 v_trail.toInt) (u0 : zMa gfi v_act v_actA gC gN gfr glg gb1 gb2 gg v_reg v_trailOf v_trailOld v_choiceSort v_choiceAct v_choicePlace v_choiceTrail v_trail.toInt v_choices.toInt v_now.toInt v_spot.toInt v_steps.toInt gPsi 1) (u1 : zPr v_sort v_value v_act v_actA v_actB v_labelAt gbs gn9 gfi gN gC) (u2 : zg v_act v_now.toInt = 9) (u3 : p1.toInt = zg v_actA v_now.toInt) (u4 : p2.toInt = zg v_actB v_now.toInt) (u5 : zGg gfi gC gN gg) (u6 : 0 ≤ gfr) (hq : ∀ (ov_trail : Int32) (ov_choices : Int32) (ov_now : Int32) (ov_steps : Int32) (ov_isOver : Bool) (ov_reg : Nat → Int32) (ov_trailOf : Nat → Int32) (ov_trailOld : Nat → Int32) (ov_choiceSort : Nat → Int32) (ov_choiceAct : Nat → Int32) (ov_choicePlace : Nat → Int32) (ov_choiceTrail : Nat → Int32), v_steps.toInt ≤ ov_steps.toInt → ov_steps.toInt ≤ v_steps.toInt + 1 → v_trail.toInt ≤ ov_trail.toInt → ov_trail.toInt ≤ v_trail.toInt + 2 → v_choices.toInt ≤ ov_choices.toInt → ((ov_choices.toInt = v_choices.toInt ∧ 0 ≤ (bz ov_isOver).toInt ∧ (bz ov_isOver).toInt ≤ 1 ∧ v_now.toInt ≤ ov_now.toInt ∧ ov_now.toInt ≤ v_now.toInt + 1) ∨ (v_choices.toInt ≤ ov_choices.toInt ∧ ov_steps.toInt ≤ v_limit.toInt ∧ ov_choices.toInt ≤ v_choices.toInt + 1)) → ov_steps.toInt ≤ v_limit.toInt → rp (fun k v => 0 ≤ v ∧ v ≤ 1129) ov_trailOf 0 v_trail.toInt → rp (fun k v => 0 ≤ v ∧ v ≤ 1129) ov_trailOf 0 ov_trail.toInt → (ov_isOver = true ∨ zMa gfi v_act v_actA gC gN gfr glg (gb1 + zh gfi (zg v_act v_now.toInt)) (gb2 + zh gfi (zg v_act v_now.toInt)) gg ov_reg ov_trailOf ov_trailOld ov_choiceSort ov_choiceAct ov_choicePlace ov_choiceTrail ov_trail.toInt ov_choices.toInt ov_now.toInt v_spot.toInt ov_steps.toInt (gPsi - 1 + 2 * gfi) 1) → Q ov_trail ov_choices ov_now ov_steps ov_isOver ov_reg ov_trailOf ov_trailOld ov_choiceSort ov_choiceAct ov_choicePlace ov_choiceTrail) : w_X12_testLoop p1 p2 v_trail v_choices v_now v_spot v_slotNow v_steps v_limit v_isOver v_value v_least v_most v_labelAt v_reg v_trailOf v_trailOld v_choiceSort v_choiceAct v_choicePlace v_choiceTrail Q := by
  have q_t : (bz true).toInt = 1 := rfl
  have q_f : (bz false).toInt = 0 := rfl
  have q_0 : (0 : Int32).toInt = 0 := rfl
  have q_1 : (1 : Int32).toInt = 1 := rfl
  unfold w_X12_testLoop
  obtain ⟨S9, hS9, hC9, _⟩ := zTl u0 u1 u2
  have hk9 := zk_le (φ := gfi) (show v_steps.toInt ≤ v_steps.toInt + 1 by omega) (by omega)
  have hx9 := zT_x u0 u1 u2
  intro x5 ex5
  have f1 : x5.toInt = v_slotNow.toInt + p1.toInt := i_add (a := v_slotNow.toInt) (b := p1.toInt) ex5 rfl rfl (by omega) (by omega)
  intro x14 ex14
  have f2 : x14.toInt = 30 + p1.toInt := i_add (a := 30) (b := p1.toInt) ex14 rfl rfl (by omega) (by omega)
  refine ⟨i_in (by omega) (by omega), ?_⟩
  intro x15 ex15
  refine ⟨i_in (by omega) (by omega), ?_⟩
  intro x25 ex25
  refine ⟨fun c26 => ?_, fun c26 => ?_⟩
  · have f3 : x25.toInt ≤ x15.toInt := i_le (a := x25.toInt) (b := x15.toInt) rfl rfl c26
    refine ⟨i_in (by omega) (by omega), ?_⟩
    intro x40 ex40
    have j_61 : ∀ (s0_61 : Int32), ((s0_61.toInt = 0) ∨ (s0_61.toInt = 1)) → w_X12_testLoop_61 p1 p2 v_spot v_limit v_value v_labelAt Q s0_61 x5 v_trail v_choices v_now v_steps v_isOver v_reg v_trailOf v_trailOld v_choiceSort v_choiceAct v_choicePlace v_choiceTrail := by
      intro s0_61 f4
      unfold w_X12_testLoop_61
      refine ⟨i_in (by omega) (by omega), ?_⟩
      intro x68 ex68
      have j_142 : ∀ (v_trail_142 : Int32) (v_choices_142 : Int32) (v_now_142 : Int32) (v_steps_142 : Int32) (v_isOver_142 : Bool) (v_reg_142 : Nat → Int32) (v_trailOf_142 : Nat → Int32) (v_trailOld_142 : Nat → Int32) (v_choiceSort_142 : Nat → Int32) (v_choiceAct_142 : Nat → Int32) (v_choicePlace_142 : Nat → Int32) (v_choiceTrail_142 : Nat → Int32), v_trail.toInt ≤ v_trail_142.toInt → v_choices.toInt ≤ v_choices_142.toInt → v_steps.toInt ≤ v_steps_142.toInt → v_steps_142.toInt ≤ v_steps.toInt + 1 → v_steps_142.toInt ≤ v_limit.toInt → v_choices_142.toInt ≤ v_choices.toInt + 1 → v_trail_142.toInt ≤ v_trail.toInt + 2 → rp (fun k v => 0 ≤ v ∧ v ≤ 1129) v_trailOf_142 0 v_trail.toInt → rp (fun k v => 0 ≤ v ∧ v ≤ 1129) v_trailOf_142 0 v_trail_142.toInt → (v_isOver_142 = true ∨ zMa gfi v_act v_actA gC gN gfr glg (gb1 + zh gfi (zg v_act v_now.toInt)) (gb2 + zh gfi (zg v_act v_now.toInt)) gg v_reg_142 v_trailOf_142 v_trailOld_142 v_choiceSort_142 v_choiceAct_142 v_choicePlace_142 v_choiceTrail_142 v_trail_142.toInt v_choices_142.toInt v_now_142.toInt v_spot.toInt v_steps_142.toInt (gPsi - 1 + 2 * gfi) 1) → w_X12_testLoop_142 Q v_trail_142 v_choices_142 v_now_142 v_steps_142 v_isOver_142 v_reg_142 v_trailOf_142 v_trailOld_142 v_choiceSort_142 v_choiceAct_142 v_choicePlace_142 v_choiceTrail_142 := by
        intro v_trail_142 v_choices_142 v_now_142 v_steps_142 v_isOver_142 v_reg_142 v_trailOf_142 v_trailOld_142 v_choiceSort_142 v_choiceAct_142 v_choicePlace_142 v_choiceTrail_142 f5 f6 f7 f8 f9 f10 f11 h12 h13 u142_0
        unfold w_X12_testLoop_142
        exact hq v_trail_142 v_choices_142 v_now_142 v_steps_142 v_isOver_142 v_reg_142 v_trailOf_142 v_trailOld_142 v_choiceSort_142 v_choiceAct_142 v_choicePlace_142 v_choiceTrail_142 (by omega) (by omega) (by omega) (by omega) (by omega) (by omega) (by omega) (rp_mono h13 (by omega) (by omega)) (rp_mono h13 (by omega) (by omega)) (by assumption)
      refine ⟨fun c70 => ?_, fun c70 => ?_⟩
      · have f14 : x68.toInt ≠ 1 := i_ne (a := x68.toInt) (b := 1) rfl rfl c70
        refine ⟨fun c106 => ?_, fun c106 => ?_⟩
        · have f15 : s0_61.toInt = 0 := i_eq (a := s0_61.toInt) (b := 0) rfl rfl c106
          refine ⟨i_in (by omega) (by omega), ?_⟩
          intro x138 ex138
          exact j_142 v_trail v_choices x138 v_steps v_isOver v_reg v_trailOf v_trailOld v_choiceSort v_choiceAct v_choicePlace v_choiceTrail (by omega) (by omega) (by omega) (by omega) (by omega) (by omega) (by omega) (rp_mono b0 (by omega) (by omega)) (rp_mono b0 (by omega) (by omega)) (by first | exact Or.inr (by rw [zg_at ex97, u4]; exact u91_0) | exact Or.inr (zT_d u0 u1 u2 (by rw [zg_at ex138, u4]) rfl rfl rfl) | exact zT_b u0 u1 u126_0 hS9 u5 u6 u2 (by omega) (by decide) (by rw [zg_at ex116, u4]) (by omega) (zov (by omega)) rfl rfl rfl)
        · have f16 : s0_61.toInt ≠ 0 := i_ne (a := s0_61.toInt) (b := 0) rfl rfl c106
          refine ⟨i_in (by omega) (by omega), ?_⟩
          intro x116 ex116
          refine ok_X12_choose (by omega) (by omega) (fun r121_0 r121_1 r121_2 r121_3 r121_4 f17 u121_0 u121_1 u121_2 u121_3 => ?_)
          refine ok_X12_beginTurn (gPP := (zP gfi v_act v_actA gC gN gfr glg (52 * zk gfi (v_steps.toInt + 1) + gb1) (33 * zk gfi (v_steps.toInt + 1) + gb2))) (gOm := (zOm gfi gC)) (gS := (S9 + zOm gfi gC (0 : Int32).toInt x116.toInt)) (v_choiceSort := r121_1) (v_choiceAct := r121_2) (v_choicePlace := r121_3) (v_choiceTrail := r121_4) (v_choices := r121_0) (by omega) (by omega) (by omega) (by omega) (by omega) (by omega) (by omega) (by omega) (by omega) (rp_mono b0 (by omega) (by omega)) (by have h116 : x116.toInt = zg v_labelAt (zg v_actB v_now.toInt) := (by rw [zg_at ex116, u4]); exact zCs_mono (zCs_ch hC9 u121_0 u121_1 u121_2 u121_3 (by omega) (by omega) (Or.inl ⟨by decide, by rw [h116]; exact hx9.1⟩) (by omega)) (zP_m (by omega) (by omega)) (Int.le_refl _)) (fun r126_0 r126_1 r126_2 r126_3 r126_4 r126_5 r126_6 f18 f19 f20 f21 f22 f23 f24 f25 f26 f27 f28 f29 f30 h31 h32 u126_0 => ?_)
          exact j_142 r126_0 r121_0 r126_1 r126_2 r126_3 r126_4 r126_5 r126_6 r121_1 r121_2 r121_3 r121_4 (by omega) (by omega) (by omega) (by omega) (by omega) (by omega) (by omega) (rp_mono h32 (by omega) (by omega)) (rp_mono h32 (by omega) (by omega)) (by first | exact Or.inr (by rw [zg_at ex97, u4]; exact u91_0) | exact Or.inr (zT_d u0 u1 u2 (by rw [zg_at ex138, u4]) rfl rfl rfl) | exact zT_b u0 u1 u126_0 hS9 u5 u6 u2 (by omega) (by decide) (by rw [zg_at ex116, u4]) (by omega) (zov (by omega)) rfl rfl rfl)
      · have f33 : x68.toInt = 1 := i_eq (a := x68.toInt) (b := 1) rfl rfl c70
        have j_91 : ∀ (v_choices_91 : Int32) (v_choiceSort_91 : Nat → Int32) (v_choiceAct_91 : Nat → Int32) (v_choicePlace_91 : Nat → Int32) (v_choiceTrail_91 : Nat → Int32), v_choices.toInt ≤ v_choices_91.toInt → v_choices_91.toInt ≤ v_choices.toInt + 1 → ((v_choices_91.toInt = v_choices.toInt ∧ s0_61.toInt = 0) ∨ (v_choices_91.toInt = v_choices.toInt + 1)) → (zMa gfi v_act v_actA gC gN gfr glg (gb1 + zh gfi (zg v_act v_now.toInt)) (gb2 + zh gfi (zg v_act v_now.toInt)) gg v_reg v_trailOf v_trailOld v_choiceSort_91 v_choiceAct_91 v_choicePlace_91 v_choiceTrail_91 v_trail.toInt v_choices_91.toInt (zg v_labelAt (zg v_actB v_now.toInt)) v_spot.toInt v_steps.toInt (gPsi - 1 + 2 * gfi) 1) → w_X12_testLoop_91 p2 v_labelAt Q v_trail v_choices_91 v_now v_steps v_isOver v_reg v_trailOf v_trailOld v_choiceSort_91 v_choiceAct_91 v_choicePlace_91 v_choiceTrail_91 := by
          intro v_choices_91 v_choiceSort_91 v_choiceAct_91 v_choicePlace_91 v_choiceTrail_91 f34 f35 f36 u91_0
          unfold w_X12_testLoop_91
          refine ⟨i_in (by omega) (by omega), ?_⟩
          intro x97 ex97
          exact j_142 v_trail v_choices_91 x97 v_steps v_isOver v_reg v_trailOf v_trailOld v_choiceSort_91 v_choiceAct_91 v_choicePlace_91 v_choiceTrail_91 (by omega) (by omega) (by omega) (by omega) (by omega) (by omega) (by omega) (rp_mono b0 (by omega) (by omega)) (rp_mono b0 (by omega) (by omega)) (by first | exact Or.inr (by rw [zg_at ex97, u4]; exact u91_0) | exact Or.inr (zT_d u0 u1 u2 (by rw [zg_at ex138, u4]) rfl rfl rfl) | exact zT_b u0 u1 u126_0 hS9 u5 u6 u2 (by omega) (by decide) (by rw [zg_at ex116, u4]) (by omega) (zov (by omega)) rfl rfl rfl)
        refine ⟨fun c75 => ?_, fun c75 => ?_⟩
        · have f37 : s0_61.toInt = 0 := i_eq (a := s0_61.toInt) (b := 0) rfl rfl c75
          exact j_91 v_choices v_choiceSort v_choiceAct v_choicePlace v_choiceTrail (by omega) (by omega) (by omega) (by first | exact zT_c u0 u1 u88_0 u88_1 u88_2 u88_3 u2 u6 (by decide) rfl (by omega) (by omega) (by omega) rfl rfl rfl rfl | exact zT_d u0 u1 u2 rfl rfl rfl rfl)
        · have f38 : s0_61.toInt ≠ 0 := i_ne (a := s0_61.toInt) (b := 0) rfl rfl c75
          refine ok_X12_choose (by omega) (by omega) (fun r88_0 r88_1 r88_2 r88_3 r88_4 f39 u88_0 u88_1 u88_2 u88_3 => ?_)
          exact j_91 r88_0 r88_1 r88_2 r88_3 r88_4 (by omega) (by omega) (by omega) (by first | exact zT_c u0 u1 u88_0 u88_1 u88_2 u88_3 u2 u6 (by decide) rfl (by omega) (by omega) (by omega) rfl rfl rfl rfl | exact zT_d u0 u1 u2 rfl rfl rfl rfl)
    have j_56 : w_X12_testLoop_56 p1 p2 v_spot v_limit v_value v_labelAt Q x5 v_trail v_choices v_now v_steps v_isOver v_reg v_trailOf v_trailOld v_choiceSort v_choiceAct v_choicePlace v_choiceTrail := by
      unfold w_X12_testLoop_56
      exact j_61 1 (by omega)
    refine ⟨fun c42 => ?_, fun c42 => ?_⟩
    · have f40 : x40.toInt = (-1) := i_eq (a := x40.toInt) (b := (-1)) rfl rfl c42
      exact j_56  
    · have f41 : x40.toInt ≠ (-1) := i_ne (a := x40.toInt) (b := (-1)) rfl rfl c42
      refine ⟨i_in (by omega) (by omega), ?_⟩
      intro x52 ex52
      have f42 : x52.toInt = x40.toInt := congrArg Int32.toInt (ex52.trans ex40.symm)
      refine ⟨fun c53 => ?_, fun c53 => ?_⟩
      · have f43 : x52.toInt ≤ x15.toInt := i_le (a := x52.toInt) (b := x15.toInt) rfl rfl c53
        exact j_61 0 (by omega)
      · have f44 : x15.toInt < x52.toInt := i_nle (a := x52.toInt) (b := x15.toInt) rfl rfl c53
        exact j_56  
  · have f45 : x15.toInt < x25.toInt := i_nle (a := x25.toInt) (b := x15.toInt) rfl rfl c26
    refine ok_X12_beginTurn (gPP := (zP gfi v_act v_actA gC gN gfr glg (52 * zk gfi (v_steps.toInt + 1) + gb1) (33 * zk gfi (v_steps.toInt + 1) + gb2))) (gOm := (zOm gfi gC)) (gS := S9) (v_choiceSort := v_choiceSort) (v_choiceAct := v_choiceAct) (v_choicePlace := v_choicePlace) (v_choiceTrail := v_choiceTrail) (v_choices := v_choices) (by omega) (by omega) (by omega) (by omega) (by omega) (by omega) (by omega) (by omega) (by omega) (rp_mono b0 (by omega) (by omega)) (by exact zCs_mono hC9 (zP_m (by omega) (by omega)) (Int.le_refl _)) (fun r31_0 r31_1 r31_2 r31_3 r31_4 r31_5 r31_6 f46 f47 f48 f49 f50 f51 f52 f53 f54 f55 f56 f57 f58 h59 h60 u31_0 => ?_)
    exact hq r31_0 v_choices r31_1 r31_2 r31_3 r31_4 r31_5 r31_6 v_choiceSort v_choiceAct v_choicePlace v_choiceTrail (by omega) (by omega) (by omega) (by omega) (by omega) (by omega) (by omega) (rp_mono h60 (by omega) (by omega)) (rp_mono h60 (by omega) (by omega)) (by exact zT_a u0 u1 u31_0 hS9 u5 u2 (by omega) (zov (by omega)) rfl rfl rfl)
set_option maxHeartbeats 4000000 in
theorem ok_X12_beginLook {p1 : Int32} {p2 : Int32} {p3 : Int32} {v_trail : Int32} {v_choices : Int32} {v_now : Int32} {v_spot : Int32} {v_steps : Int32} {v_limit : Int32} {v_isOver : Bool} {v_labelAt : Nat → Int32} {v_reg : Nat → Int32} {v_trailOf : Nat → Int32} {v_trailOld : Nat → Int32} {v_choiceSort : Nat → Int32} {v_choiceAct : Nat → Int32} {v_choicePlace : Nat → Int32} {v_choiceTrail : Nat → Int32} {gfi : Int} {gC : Int → zT} {gN : Int} {gfr : Int} {glg : Int} {gb1 : Int} {gb2 : Int} {gg : Int} {gPsi : Int} {gbs : Int} {gn9 : Int} {v_act : Nat → Int32} {v_actA : Nat → Int32} {v_actB : Nat → Int32} {v_sort : Nat → Int32} {v_value : Nat → Int32} {Q : Int32 → Int32 → Int32 → Int32 → Int32 → Bool → (Nat → Int32) → (Nat → Int32) → (Nat → Int32) → (Nat → Int32) → (Nat → Int32) → (Nat → Int32) → (Nat → Int32) → Prop} (a0 : 0 ≤ p3.toInt) (a1 : p3.toInt ≤ 1) (a2 : 0 ≤ v_trail.toInt) (a3 : v_trail.toInt ≤ 119990) (a4 : 0 ≤ v_choices.toInt) (a5 : v_choices.toInt ≤ 199990) (a6 : 0 ≤ v_now.toInt) (a7 : v_now.toInt ≤ 2998) (a8 : 0 ≤ v_steps.toInt) (a9 : v_steps.toInt ≤ 2000000) (a10 : v_steps.toInt ≤ v_limit.toInt) (a11 : 0 ≤ p1.toInt) (a12 : p1.toInt ≤ 219) (a13 : 0 ≤ p2.toInt + 1) (a14 : p2.toInt ≤ 2999) (b0 : rp (fun k v => 0 ≤ v ∧ v ≤ 1129) v_trailOf 0 v_trail.toInt) (u0 : zMa gfi v_act v_actA gC gN gfr glg gb1 gb2 gg v_reg v_trailOf v_trailOld v_choiceSort v_choiceAct v_choicePlace v_choiceTrail v_trail.toInt v_choices.toInt v_now.toInt v_spot.toInt v_steps.toInt gPsi 1) (u1 : zPr v_sort v_value v_act v_actA v_actB v_labelAt gbs gn9 gfi gN gC) (u2 : zg v_act v_now.toInt = 13 ∨ zg v_act v_now.toInt = 15 ∨ zg v_act v_now.toInt = 17) (u3 : p1.toInt = zg v_actA v_now.toInt) (u4 : p2.toInt = zg v_actB v_now.toInt) (u5 : zGg gfi gC gN gg) (u6 : 0 ≤ gfr) (u7 : p3.toInt ≠ 0 → zg v_act v_now.toInt = 17) (u8 : p3.toInt = 0 → zg v_act v_now.toInt ≠ 17) (u9 : glg ≤ 100) (hq : ∀ (ov_trail : Int32) (ov_choices : Int32) (ov_now : Int32) (ov_spot : Int32) (ov_steps : Int32) (ov_isOver : Bool) (ov_reg : Nat → Int32) (ov_trailOf : Nat → Int32) (ov_trailOld : Nat → Int32) (ov_choiceSort : Nat → Int32) (ov_choiceAct : Nat → Int32) (ov_choicePlace : Nat → Int32) (ov_choiceTrail : Nat → Int32), v_steps.toInt ≤ ov_steps.toInt → v_trail.toInt ≤ ov_trail.toInt → v_choices.toInt ≤ ov_choices.toInt → v_now.toInt ≤ ov_now.toInt → ov_trail.toInt ≤ 119999 → ov_choices.toInt ≤ 199999 → ov_now.toInt ≤ 2999 → ov_steps.toInt ≤ 1073741823 → ov_steps.toInt ≤ v_steps.toInt + 2 → ov_steps.toInt ≤ v_limit.toInt → ov_choices.toInt ≤ v_choices.toInt + 2 → ov_trail.toInt ≤ v_trail.toInt + 3 → rp (fun k v => 0 ≤ v ∧ v ≤ 1129) ov_trailOf 0 v_trail.toInt → rp (fun k v => 0 ≤ v ∧ v ≤ 1129) ov_trailOf 0 ov_trail.toInt → (ov_isOver = true ∨ zMa gfi v_act v_actA gC gN gfr glg (gb1 + zh gfi (zg v_act v_now.toInt)) (gb2 + zh gfi (zg v_act v_now.toInt)) gg ov_reg ov_trailOf ov_trailOld ov_choiceSort ov_choiceAct ov_choicePlace ov_choiceTrail ov_trail.toInt ov_choices.toInt ov_now.toInt ov_spot.toInt ov_steps.toInt (gPsi - 1 + 2 * gfi) 1) → Q ov_trail ov_choices ov_now ov_spot ov_steps ov_isOver ov_reg ov_trailOf ov_trailOld ov_choiceSort ov_choiceAct ov_choicePlace ov_choiceTrail) : w_X12_beginLook p1 p2 p3 v_trail v_choices v_now v_spot v_steps v_limit v_isOver v_labelAt v_reg v_trailOf v_trailOld v_choiceSort v_choiceAct v_choicePlace v_choiceTrail Q := by
  have q_t : (bz true).toInt = 1 := rfl
  have q_f : (bz false).toInt = 0 := rfl
  have q_0 : (0 : Int32).toInt = 0 := rfl
  unfold w_X12_beginLook
  obtain ⟨S9, hS9, hC9, hI9, hp9, _⟩ := zL0 u0 u1 u2
  have hk9 := zk_le (φ := gfi) (show v_steps.toInt ≤ v_steps.toInt + 1 by omega) (by omega)
  have hk8 := zk_le (φ := gfi) (show v_steps.toInt + 1 ≤ v_steps.toInt + 2 by omega) (by omega)
  have hk7 : zk gfi (v_steps.toInt + 2) = zk gfi v_steps.toInt + 2 := (by rw [hp9, zk_0, zk_0])
  have hl9 := zWf_le u6 hI9.2.1
  have f1 : (0 ≤ v_spot.toInt ∧ v_spot.toInt ≤ 100) := by omega
  refine ok_X12_isStep (by omega) (by omega) (by omega) (fun r1 r1_0 r1_1 f2 f3 f4 f5 f6 f7 f8 f9 f10 f11 f12 f13 f14 f15 => ?_)
  refine ⟨fun c4 => ?_, fun c4 => ?_⟩
  · have f16 : r1.toInt ≠ 0 := i_ne (a := r1.toInt) (b := 0) rfl rfl c4
    intro x13 ex13
    have f17 : x13.toInt = 470 + p1.toInt := i_add (a := 470) (b := p1.toInt) ex13 rfl rfl (by omega) (by omega)
    refine ok_X12_set (by omega) (by omega) (by omega) (by omega) (rp_mono b0 (by omega) (by omega)) (fun r18_0 r18_1 r18_2 r18_3 f18 f19 f20 h21 h22 u18_0 => ?_)
    intro x26 ex26
    have f23 : x26.toInt = 690 + p1.toInt := i_add (a := 690) (b := p1.toInt) ex26 rfl rfl (by omega) (by omega)
    refine ok_X12_set (by omega) (by omega) (by omega) (by omega) (rp_mono h22 (by omega) (by omega)) (fun r31_0 r31_1 r31_2 r31_3 f24 f25 f26 h27 h28 u31_0 => ?_)
    have ha9 := zCs_st hC9 u18_0 (by omega) (by omega)
    have hb9 := zCs_st ha9.1 u31_0 (by omega) (by omega)
    have hr9 := hb9.2
    rw [ha9.2, show x13.toInt = 470 + zg v_actA v_now.toInt by omega, show x26.toInt = 690 + zg v_actA v_now.toInt by omega] at hr9
    have hc9 := zCs_mono hb9.1 (zP_m (B1' := 52 * zk gfi (v_steps.toInt + 1) + gb1) (B2' := 33 * zk gfi (v_steps.toInt + 1) + gb2) (by omega) (by omega)) (Int.le_refl _)
    have j_54 : ∀ (v_choices_54 : Int32) (v_choiceSort_54 : Nat → Int32) (v_choiceAct_54 : Nat → Int32) (v_choicePlace_54 : Nat → Int32) (v_choiceTrail_54 : Nat → Int32), v_choices.toInt ≤ v_choices_54.toInt → v_choices_54.toInt ≤ v_choices.toInt + 2 → v_choices_54.toInt ≤ v_choices.toInt + 1 → ((v_choices_54.toInt = v_choices.toInt ∧ p2.toInt + 1 = 0) ∨ (v_choices_54.toInt = v_choices.toInt + 1)) → (zL5 (zP gfi v_act v_actA gC gN gfr glg (52 * zk gfi (v_steps.toInt + 1) + gb1) (33 * zk gfi (v_steps.toInt + 1) + gb2)) (zOm gfi gC) r31_2 r31_3 v_choiceSort_54 v_choiceAct_54 v_choicePlace_54 v_choiceTrail_54 r31_0.toInt v_choices.toInt v_choices_54.toInt (zG r31_1) S9 gg) → w_X12_beginLook_54 p1 p3 v_limit Q r31_0 v_choices_54 v_now v_spot r1_0 r1_1 r31_1 r31_2 r31_3 v_choiceSort_54 v_choiceAct_54 v_choicePlace_54 v_choiceTrail_54 := by
      intro v_choices_54 v_choiceSort_54 v_choiceAct_54 v_choicePlace_54 v_choiceTrail_54 f29 f30 f31 f32 u54_0
      unfold w_X12_beginLook_54
      have h54 := u54_0
      obtain ⟨W9, hW0, hW1, hm1, hm2, hC8⟩ := h54
      have j_80 : ∀ (v_trail_80 : Int32) (v_choices_80 : Int32) (v_now_80 : Int32) (v_spot_80 : Int32) (v_steps_80 : Int32) (v_isOver_80 : Bool) (v_reg_80 : Nat → Int32) (v_trailOf_80 : Nat → Int32) (v_trailOld_80 : Nat → Int32) (v_choiceSort_80 : Nat → Int32) (v_choiceAct_80 : Nat → Int32) (v_choicePlace_80 : Nat → Int32) (v_choiceTrail_80 : Nat → Int32), v_trail.toInt ≤ v_trail_80.toInt → v_choices.toInt ≤ v_choices_80.toInt → v_now.toInt ≤ v_now_80.toInt → v_steps.toInt ≤ v_steps_80.toInt → v_steps_80.toInt ≤ v_steps.toInt + 2 → v_steps_80.toInt ≤ v_limit.toInt → v_choices_80.toInt ≤ v_choices.toInt + 2 → v_trail_80.toInt ≤ v_trail.toInt + 3 → v_now_80.toInt ≤ 2999 → 1 ≤ v_steps_80.toInt → rp (fun k v => 0 ≤ v ∧ v ≤ 1129) v_trailOf_80 0 r18_0.toInt → rp (fun k v => 0 ≤ v ∧ v ≤ 1129) v_trailOf_80 0 r31_0.toInt → rp (fun k v => 0 ≤ v ∧ v ≤ 1129) v_trailOf_80 0 v_trail_80.toInt → (v_isOver_80 = true ∨ zMa gfi v_act v_actA gC gN gfr glg (gb1 + zh gfi (zg v_act v_now.toInt)) (gb2 + zh gfi (zg v_act v_now.toInt)) gg v_reg_80 v_trailOf_80 v_trailOld_80 v_choiceSort_80 v_choiceAct_80 v_choicePlace_80 v_choiceTrail_80 v_trail_80.toInt v_choices_80.toInt v_now_80.toInt v_spot_80.toInt v_steps_80.toInt (gPsi - 1 + 2 * gfi) 1) → w_X12_beginLook_80 Q v_trail_80 v_choices_80 v_now_80 v_spot_80 v_steps_80 v_isOver_80 v_reg_80 v_trailOf_80 v_trailOld_80 v_choiceSort_80 v_choiceAct_80 v_choicePlace_80 v_choiceTrail_80 := by
        intro v_trail_80 v_choices_80 v_now_80 v_spot_80 v_steps_80 v_isOver_80 v_reg_80 v_trailOf_80 v_trailOld_80 v_choiceSort_80 v_choiceAct_80 v_choicePlace_80 v_choiceTrail_80 f33 f34 f35 f36 f37 f38 f39 f40 f41 f42 h43 h44 h45 u80_0
        unfold w_X12_beginLook_80
        exact hq v_trail_80 v_choices_80 v_now_80 v_spot_80 v_steps_80 v_isOver_80 v_reg_80 v_trailOf_80 v_trailOld_80 v_choiceSort_80 v_choiceAct_80 v_choicePlace_80 v_choiceTrail_80 (by omega) (by omega) (by omega) (by omega) (by omega) (by omega) (by omega) (by omega) (by omega) (by omega) (by omega) (by omega) (rp_mono h45 (by omega) (by omega)) (rp_mono h45 (by omega) (by omega)) (by assumption)
      refine ⟨fun c55 => ?_, fun c55 => ?_⟩
      · have f46 : p3.toInt = 0 := i_eq (a := p3.toInt) (b := 0) rfl rfl c55
        intro x76 ex76
        have f47 : x76.toInt = v_now.toInt + 1 := i_add (a := v_now.toInt) (b := 1) ex76 rfl rfl (by omega) (by omega)
        exact j_80 r31_0 v_choices_54 x76 v_spot r1_0 r1_1 r31_1 r31_2 r31_3 v_choiceSort_54 v_choiceAct_54 v_choicePlace_54 v_choiceTrail_54 (by omega) (by omega) (by omega) (by omega) (by omega) (by omega) (by omega) (by omega) (by omega) (by omega) (rp_mono h28 (by omega) (by omega)) (rp_mono h28 (by omega) (by omega)) (rp_mono h28 (by omega) (by omega)) (by first | exact zL_b u0 u1 (by rw [← u3]; exact u64_0) hS9 hr9 u5 u6 (u7 (by omega)) (by omega) (by omega) (by omega) hW1 (zov (by omega)) rfl rfl rfl | exact Or.inr (zL_n u0 u1 u54_0 hS9 hr9 u5 u6 (by have h8 := u8 (by omega); omega) (by omega) (by omega) (by omega) rfl rfl rfl))
      · have f48 : p3.toInt ≠ 0 := i_ne (a := p3.toInt) (b := 0) rfl rfl c55
        refine ok_X12_tryBehind (gPP := (zP gfi v_act v_actA gC gN gfr glg (52 * zk gfi (v_steps.toInt + 2) + gb1) (33 * zk gfi (v_steps.toInt + 2) + gb2))) (gOm := (zOm gfi gC)) (gS := (S9 + W9)) (by omega) (by omega) (by omega) (by omega) (by omega) (by omega) (by omega) (by omega) (by omega) (by omega) (by omega) (by omega) (by omega) (rp_mono h28 (by omega) (by omega)) (by exact zCs_mono hC8 (zP_m (by omega) (by omega)) (Int.le_refl _)) (by intro t9 ht8 ht9 hs8; have h17 := u7 (by omega); have hi := zL_i (q := v_spot.toInt) (t2 := t9) (m' := v_choices_54.toInt) (B1 := 52 * zk gfi (v_steps.toInt + 2) + gb1) (B2 := 33 * zk gfi (v_steps.toInt + 2) + gb2) u0 u1 hr9 u6 h17 (by omega) (by omega) (by omega) (by omega) (by omega) (by omega) (by omega); rw [u3]; exact Or.inr (Or.inr ⟨rfl, h17, by omega, hi, (by have e9 : zfs (zG r31_1) (910 + zg v_actA v_now.toInt) v_spot.toInt (910 + zg v_actA v_now.toInt) = v_spot.toInt := if_pos rfl;                                                        omega), (by have e9 : zfs (zG r31_1) (910 + zg v_actA v_now.toInt) v_spot.toInt (910 + zg v_actA v_now.toInt) = v_spot.toInt := if_pos rfl;                                                                    omega)⟩)) (fun r64_0 r64_1 r64_2 r64_3 r64_4 r64_5 r64_6 r64_7 r64_8 r64_9 r64_10 r64_11 r64_12 f49 f50 f51 f52 f53 f54 f55 f56 f57 f58 f59 f60 f61 f62 f63 h64 h65 u64_0 => ?_)
        exact j_80 r64_0 r64_1 r64_2 r64_3 r64_4 r64_5 r64_6 r64_7 r64_8 r64_9 r64_10 r64_11 r64_12 (by omega) (by omega) (by omega) (by omega) (by omega) (by omega) (by omega) (by omega) (by omega) (by omega) (rp_mono h65 (by omega) (by omega)) (rp_mono h65 (by omega) (by omega)) (rp_mono h65 (by omega) (by omega)) (by first | exact zL_b u0 u1 (by rw [← u3]; exact u64_0) hS9 hr9 u5 u6 (u7 (by omega)) (by omega) (by omega) (by omega) hW1 (zov (by omega)) rfl rfl rfl | exact Or.inr (zL_n u0 u1 u54_0 hS9 hr9 u5 u6 (by have h8 := u8 (by omega); omega) (by omega) (by omega) (by omega) rfl rfl rfl))
    refine ⟨fun c36 => ?_, fun c36 => ?_⟩
    · have f66 : p2.toInt = (-1) := i_eq (a := p2.toInt) (b := (-1)) rfl rfl c36
      exact j_54 v_choices v_choiceSort v_choiceAct v_choicePlace v_choiceTrail (by omega) (by omega) (by omega) (by omega) (by first | exact zL_c u0 u1 hc9 hr9 u51_0 u51_1 u51_2 u51_3 u5 u6 u2 (by omega) (by decide) (by rw [zg_at ex46, u4]) (by omega) (by omega) (by omega) (by omega) | exact zL_0 hc9 u5.1 rfl)
    · have f67 : p2.toInt ≠ (-1) := i_ne (a := p2.toInt) (b := (-1)) rfl rfl c36
      refine ⟨i_in (by omega) (by omega), ?_⟩
      intro x46 ex46
      refine ok_X12_choose (by omega) (by omega) (fun r51_0 r51_1 r51_2 r51_3 r51_4 f68 u51_0 u51_1 u51_2 u51_3 => ?_)
      exact j_54 r51_0 r51_1 r51_2 r51_3 r51_4 (by omega) (by omega) (by omega) (by omega) (by first | exact zL_c u0 u1 hc9 hr9 u51_0 u51_1 u51_2 u51_3 u5 u6 u2 (by omega) (by decide) (by rw [zg_at ex46, u4]) (by omega) (by omega) (by omega) (by omega) | exact zL_0 hc9 u5.1 rfl)
  · have f69 : r1.toInt = 0 := i_eq (a := r1.toInt) (b := 0) rfl rfl c4
    exact hq v_trail v_choices v_now v_spot r1_0 r1_1 v_reg v_trailOf v_trailOld v_choiceSort v_choiceAct v_choicePlace v_choiceTrail (by omega) (by omega) (by omega) (by omega) (by omega) (by omega) (by omega) (by omega) (by omega) (by omega) (by omega) (by omega) (rp_mono b0 (by omega) (by omega)) (rp_mono b0 (by omega) (by omega)) (by exact Or.inl (zbz1 (by omega)))
