set_option maxHeartbeats 4000000 in
theorem ok_X12_isBack {p1 : Int32} {v_spot : Int32} {v_textNow : Int32} {v_longNow : Int32} {v_value : Nat → Int32} {v_inCase : Nat → Bool} {v_signs : Nat → Int32} {v_reg : Nat → Int32} {Q : Int32 → Int32 → Prop} (a0 : 0 ≤ v_textNow.toInt) (a1 : v_textNow.toInt ≤ 300) (a2 : 0 ≤ v_longNow.toInt) (a3 : v_longNow.toInt ≤ 100) (a4 : 0 ≤ v_spot.toInt) (a5 : v_spot.toInt ≤ v_longNow.toInt) (a6 : 0 ≤ p1.toInt) (a7 : p1.toInt ≤ 1319) (b0 : rp (fun k v => 0 ≤ v ∧ v ≤ 65535) v_signs 0 400) (u0 : zBq v_reg v_value p1.toInt v_longNow.toInt) (hq : ∀ (r : Int32) (ov_spot : Int32), 0 ≤ r.toInt + 1 → 0 ≤ r.toInt → r.toInt ≤ 1 → r.toInt ≤ 2 → r.toInt ≤ p1.toInt + 1 → r.toInt ≤ v_spot.toInt + 1 → r.toInt ≤ v_textNow.toInt + 1 → r.toInt ≤ v_longNow.toInt + 1 → v_spot.toInt ≤ ov_spot.toInt → ov_spot.toInt ≤ v_longNow.toInt → Q r ov_spot) : w_X12_isBack p1 v_spot v_textNow v_longNow v_value v_inCase v_signs v_reg Q := by
  have q_t : (bz true).toInt = 1 := rfl
  have q_f : (bz false).toInt = 0 := rfl
  have q_0 : (0 : Int32).toInt = 0 := rfl
  have q_1 : (1 : Int32).toInt = 1 := rfl
  unfold w_X12_isBack
  refine ⟨i_in (by omega) (by omega), ?_⟩
  intro x10 ex10
  have f1 : (0 ≤ x10.toInt ∧ x10.toInt ≤ 9) := zBq_v u0 ex10
  intro x11 ex11
  have f2 : x11.toInt = 0 + x10.toInt := i_add (a := 0) (b := x10.toInt) ex11 rfl rfl (by omega) (by omega)
  refine ⟨i_in (by omega) (by omega), ?_⟩
  intro x12 ex12
  have f3 : (0 ≤ x12.toInt + 1 ∧ x12.toInt ≤ 100) := by have h9 := zBq_b u0 ex10 ex12 (by omega); omega
  refine ⟨i_in (by omega) (by omega), ?_⟩
  intro x25 ex25
  have f4 : x25.toInt = x10.toInt := congrArg Int32.toInt (ex25.trans ex10.symm)
  have f5 : (0 ≤ x25.toInt ∧ x25.toInt ≤ 9) := zBq_v u0 ex25
  intro x26 ex26
  have f6 : x26.toInt = 10 + x25.toInt := i_add (a := 10) (b := x25.toInt) ex26 rfl rfl (by omega) (by omega)
  refine ⟨i_in (by omega) (by omega), ?_⟩
  intro x27 ex27
  have f7 : (0 ≤ x27.toInt + 1 ∧ x27.toInt ≤ 100) := by have h9 := (zBq_e u0 ex10 ex12 (by omega) ex25 ex27 (by omega)).1; omega
  have f8 : ((x12.toInt + 1 ≤ 0) ∨ (x12.toInt ≤ x27.toInt ∧ x27.toInt ≤ v_longNow.toInt)) := by have h9 := (zBq_e u0 ex10 ex12 (by omega) ex25 ex27 (by omega)).2; omega
  intro x29 ex29
  have f9 : x29.toInt = x27.toInt - x12.toInt := i_sub (a := x27.toInt) (b := x12.toInt) ex29 rfl rfl (by omega) (by omega)
  have j_53 : ∀ (s0_53 : Int32), 0 ≤ s0_53.toInt → s0_53.toInt ≤ 1 → ((s0_53.toInt = 0) ∨ (0 ≤ x12.toInt)) → ((s0_53.toInt = 0) ∨ (v_spot.toInt + x29.toInt ≤ v_longNow.toInt)) → ((s0_53.toInt = 1 ∧ 0 ≤ x12.toInt ∧ v_spot.toInt + x29.toInt ≤ v_longNow.toInt) ∨ (s0_53.toInt = 0)) → w_X12_isBack_53 p1 v_textNow v_inCase v_signs Q s0_53 x12 x29 v_spot := by
    intro s0_53 f10 f11 f12 f13 f14
    unfold w_X12_isBack_53
    have j_58 : ∀ n_58 : Nat, ∀ (l4_58 : Int32) (l5_58 : Int32), 0 ≤ l4_58.toInt → l4_58.toInt ≤ s0_53.toInt → 0 ≤ l5_58.toInt → l5_58.toInt ≤ x29.toInt → l5_58.toInt ≤ v_longNow.toInt → ((-1) * l5_58.toInt + 2147483648).toNat < n_58 → w_X12_isBack_58 p1 v_textNow v_inCase v_signs Q x12 x29 v_spot n_58 l4_58 l5_58 := by
      intro n_58
      induction n_58 with
      | zero =>
        intro l4_58 l5_58 f15 f16 f17 f18 f19 hm_58
        exfalso; omega
      | succ n_58 ih_58 =>
        intro l4_58 l5_58 f15 f16 f17 f18 f19 hm_58
        unfold w_X12_isBack_58
        unfold w_X12_isBack_58B
        have j_131 : ((x29.toInt ≤ l5_58.toInt) ∨ (l5_58.toInt + 1 ≤ x29.toInt ∧ l4_58.toInt = 0)) → w_X12_isBack_131 Q x29 l4_58 v_spot := by
          intro f20
          unfold w_X12_isBack_131
          have j_146 : ∀ (s0_146 : Int32), 0 ≤ s0_146.toInt → s0_146.toInt + v_spot.toInt ≤ v_longNow.toInt → ((s0_146.toInt = 0 ∧ l4_58.toInt = 0) ∨ (s0_146.toInt = x29.toInt)) → w_X12_isBack_146 Q s0_146 v_spot l4_58 v_spot := by
            intro s0_146 f21 f22 f23
            unfold w_X12_isBack_146
            intro x146 ex146
            have f24 : x146.toInt = v_spot.toInt + s0_146.toInt := i_add (a := v_spot.toInt) (b := s0_146.toInt) ex146 rfl rfl (by omega) (by omega)
            refine ⟨i_01 (by omega) (by omega), ?_⟩
            exact hq l4_58 x146 (by omega) (by omega) (by omega) (by omega) (by omega) (by omega) (by omega) (by omega) (by omega) (by omega)
          refine ⟨fun c138 => ?_, fun c138 => ?_⟩
          · have f25 : l4_58.toInt = 0 := i_eq (a := l4_58.toInt) (b := 0) rfl rfl c138
            exact j_146 0 (by omega) (by omega) (by omega)
          · have f26 : l4_58.toInt ≠ 0 := i_ne (a := l4_58.toInt) (b := 0) rfl rfl c138
            exact j_146 x29 (by omega) (by omega) (by omega)
        refine ⟨fun c61 => ?_, fun c61 => ?_⟩
        · have f27 : x29.toInt ≤ l5_58.toInt := i_le (a := x29.toInt) (b := l5_58.toInt) rfl rfl c61
          exact j_131  (by omega)
        · have f28 : l5_58.toInt < x29.toInt := i_nle (a := x29.toInt) (b := l5_58.toInt) rfl rfl c61
          refine ⟨fun c66 => ?_, fun c66 => ?_⟩
          · have f29 : l4_58.toInt = 0 := i_eq (a := l4_58.toInt) (b := 0) rfl rfl c66
            exact j_131  (by omega)
          · have f30 : l4_58.toInt ≠ 0 := i_ne (a := l4_58.toInt) (b := 0) rfl rfl c66
            intro x73 ex73
            have f31 : x73.toInt = x12.toInt + l5_58.toInt := i_add (a := x12.toInt) (b := l5_58.toInt) ex73 rfl rfl (by omega) (by omega)
            refine ok_X12_signOf (by omega) (by omega) (by omega) (by omega) (rp_mono b0 (by omega) (by omega)) (fun r74 f32 f33 => ?_)
            intro x86 ex86
            have f34 : x86.toInt = v_spot.toInt + l5_58.toInt := i_add (a := v_spot.toInt) (b := l5_58.toInt) ex86 rfl rfl (by omega) (by omega)
            refine ok_X12_signOf (by omega) (by omega) (by omega) (by omega) (rp_mono b0 (by omega) (by omega)) (fun r87 f35 f36 => ?_)
            have j_123 : ∀ (s0_123 : Int32), 0 ≤ s0_123.toInt → s0_123.toInt ≤ 1 → ((s0_123.toInt = 0) ∨ (s0_123.toInt = 1)) → w_X12_isBack_123 Q (w_X12_isBack_58 p1 v_textNow v_inCase v_signs Q x12 x29 v_spot n_58) s0_123 l5_58 := by
              intro s0_123 f37 f38 f39
              unfold w_X12_isBack_123
              intro x125 ex125
              have f40 : x125.toInt = l5_58.toInt + 1 := i_add (a := l5_58.toInt) (b := 1) ex125 rfl rfl (by omega) (by omega)
              exact ih_58 s0_123 x125  (by omega) (by omega) (by omega) (by omega) (by omega) (by have h8_0 := i_rng l5_58; have h8_1 := i_rng x125; omega)
            have j_118 : ((r74.toInt = r87.toInt) ∨ (0 ≤ r87.toInt ∧ r87.toInt ≤ 65535)) → w_X12_isBack_118 Q (w_X12_isBack_58 p1 v_textNow v_inCase v_signs Q x12 x29 v_spot n_58) l5_58 := by
              intro f41
              unfold w_X12_isBack_118
              exact j_123 1 (by omega) (by omega) (by omega)
            refine ⟨fun c96 => ?_, fun c96 => ?_⟩
            · have f42 : r74.toInt = r87.toInt := i_eq (a := r74.toInt) (b := r87.toInt) rfl rfl c96
              exact j_118  (by omega)
            · have f43 : r74.toInt ≠ r87.toInt := i_ne (a := r74.toInt) (b := r87.toInt) rfl rfl c96
              refine ⟨i_in (by omega) (by omega), ?_⟩
              intro x104 ex104
              have f44 : (0 ≤ x104.toInt ∧ x104.toInt ≤ 1) := i_bz ex104
              have j_122 : w_X12_isBack_122 Q (w_X12_isBack_58 p1 v_textNow v_inCase v_signs Q x12 x29 v_spot n_58) l5_58 := by
                unfold w_X12_isBack_122
                exact j_123 0 (by omega) (by omega) (by omega)
              refine ⟨fun c105 => ?_, fun c105 => ?_⟩
              · have f45 : x104.toInt = 0 := i_eq (a := x104.toInt) (b := 0) rfl rfl c105
                exact j_122  
              · have f46 : x104.toInt ≠ 0 := i_ne (a := x104.toInt) (b := 0) rfl rfl c105
                refine ok_X12_otherCase (by omega) (by omega) (fun r110 f47 f48 f49 f50 f51 f52 => ?_)
                refine ⟨fun c115 => ?_, fun c115 => ?_⟩
                · have f53 : r110.toInt ≠ r87.toInt := i_ne (a := r110.toInt) (b := r87.toInt) rfl rfl c115
                  exact j_122  
                · have f54 : r110.toInt = r87.toInt := i_eq (a := r110.toInt) (b := r87.toInt) rfl rfl c115
                  exact j_118  (by omega)
    exact ⟨(2147483648 : Int).toNat + 1, j_58   ((2147483648 : Int).toNat + 1) s0_53 0  (by omega) (by omega) (by omega) (by omega) (by omega) (by omega)⟩
  have j_52 : ((x12.toInt + 1 ≤ 0) ∨ (0 ≤ x12.toInt ∧ v_longNow.toInt + 1 ≤ v_spot.toInt + x29.toInt)) → w_X12_isBack_52 p1 v_textNow v_inCase v_signs Q x12 x29 v_spot := by
    intro f55
    unfold w_X12_isBack_52
    exact j_53 0 (by omega) (by omega) (by omega) (by omega) (by omega)
  refine ⟨fun c32 => ?_, fun c32 => ?_⟩
  · have f56 : x12.toInt < 0 := i_lt (a := x12.toInt) (b := 0) rfl rfl c32
    exact j_52  (by omega)
  · have f57 : 0 ≤ x12.toInt := i_nlt (a := x12.toInt) (b := 0) rfl rfl c32
    intro x40 ex40
    have f58 : x40.toInt = v_spot.toInt + x29.toInt := i_add (a := v_spot.toInt) (b := x29.toInt) ex40 rfl rfl (by omega) (by omega)
    refine ⟨fun c45 => ?_, fun c45 => ?_⟩
    · have f59 : v_longNow.toInt < x40.toInt := i_lt (a := v_longNow.toInt) (b := x40.toInt) rfl rfl c45
      exact j_52  (by omega)
    · have f60 : x40.toInt ≤ v_longNow.toInt := i_nlt (a := v_longNow.toInt) (b := x40.toInt) rfl rfl c45
      exact j_53 1 (by omega) (by omega) (by omega) (by omega) (by omega)
