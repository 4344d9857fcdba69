set_option maxHeartbeats 4000000 in
theorem ok_X12_later {p1 : Int32} {p2 : Int32} {p3 : Int32} {v_tasks : Int32} {v_task : Nat → Int32} {v_taskA : Nat → Int32} {v_taskB : Nat → Int32} {Q : Int32 → (Nat → Int32) → (Nat → Int32) → (Nat → Int32) → Prop} (a0 : 0 ≤ v_tasks.toInt) (a1 : v_tasks.toInt ≤ 5999) (hq : ∀ (ov_tasks : Int32) (ov_task : Nat → Int32) (ov_taskA : Nat → Int32) (ov_taskB : Nat → Int32), ov_tasks.toInt = v_tasks.toInt + 1 → (ov_task = upd v_task v_tasks.toNatClampNeg p1) → (ov_taskA = upd v_taskA v_tasks.toNatClampNeg p2) → (ov_taskB = upd v_taskB v_tasks.toNatClampNeg p3) → Q ov_tasks ov_task ov_taskA ov_taskB) : w_X12_later p1 p2 p3 v_tasks v_task v_taskA v_taskB Q := by
  have q_t : (bz true).toInt = 1 := rfl
  have q_f : (bz false).toInt = 0 := rfl
  unfold w_X12_later
  refine ⟨i_in (by omega) (by omega), ?_⟩
  intro g9 eg9
  refine ⟨i_in (by omega) (by omega), ?_⟩
  intro g19 eg19
  refine ⟨i_in (by omega) (by omega), ?_⟩
  intro g29 eg29
  intro x36 ex36
  have f1 : x36.toInt = v_tasks.toInt + 1 := i_add (a := v_tasks.toInt) (b := 1) ex36 rfl rfl (by omega) (by omega)
  exact hq x36 g9 g19 g29 (by omega) (by assumption) (by assumption) (by assumption)
set_option maxHeartbeats 4000000 in
theorem ok_X12_newLabel {v_labels : Int32} {Q : Int32 → Int32 → Prop} (a0 : 0 ≤ v_labels.toInt) (a1 : v_labels.toInt ≤ 2999) (hq : ∀ (r : Int32) (ov_labels : Int32), ov_labels.toInt = v_labels.toInt + 1 → r.toInt + 1 = ov_labels.toInt → Q r ov_labels) : w_X12_newLabel v_labels Q := by
  have q_t : (bz true).toInt = 1 := rfl
  have q_f : (bz false).toInt = 0 := rfl
  unfold w_X12_newLabel
  intro x6 ex6
  have f1 : x6.toInt = v_labels.toInt + 1 := i_add (a := v_labels.toInt) (b := 1) ex6 rfl rfl (by omega) (by omega)
  intro x15 ex15
  have f2 : x15.toInt = x6.toInt - 1 := i_sub (a := x6.toInt) (b := 1) ex15 rfl rfl (by omega) (by omega)
  exact hq x15 x6 (by omega) (by omega)
set_option maxHeartbeats 4000000 in
theorem ok_X12_isAlike {p1 : Int32} {p2 : Int32} {v_classes : Nat → Int32} {v_leads : Nat → Int32} {v_group : Nat → Int32} {v_states : Nat → Int32} {v_classOf : Nat → Int32} {gbm9 : Int} {Q : Int32 → Prop} (a0 : 0 ≤ p1.toInt) (a1 : 0 ≤ p2.toInt) (u0 : zTb v_states v_classes v_leads v_classOf 0 gbm9) (u1 : p1.toInt < zg v_states 0) (u2 : p2.toInt < zg v_states 0) (hq : ∀ (r : Int32), 0 ≤ r.toInt + 1 → 0 ≤ r.toInt → r.toInt ≤ 1 → r.toInt ≤ 2 → r.toInt ≤ 499 → r.toInt ≤ 500 → r.toInt ≤ 501 → r.toInt ≤ p1.toInt + 1 → r.toInt ≤ p2.toInt + 1 → (r.toInt ≠ 0 → zg v_group p1.toInt = zg v_group p2.toInt) → Q r) : w_X12_isAlike p1 p2 v_classes v_leads v_group Q := by
  have q_t : (bz true).toInt = 1 := rfl
  have q_f : (bz false).toInt = 0 := rfl
  have q_0 : (0 : Int32).toInt = 0 := rfl
  have q_1 : (1 : Int32).toInt = 1 := rfl
  unfold w_X12_isAlike
  have f1 : p1.toInt + 1 ≤ (zg v_states 0 : Int) := u1
  have f2 : p2.toInt + 1 ≤ (zg v_states 0 : Int) := u2
  have f3 : (zg v_states 0 : Int) ≤ 60 := u0.1.2
  have f4 : (zg v_classes 0 : Int) ≤ 260 := u0.2.1.2
  refine ⟨i_in (by omega) (by omega), ?_⟩
  intro x5 ex5
  refine ⟨i_in (by omega) (by omega), ?_⟩
  intro x11 ex11
  have j_20 : ∀ (s0_20 : Int32), 0 ≤ s0_20.toInt → s0_20.toInt ≤ 1 → ((s0_20.toInt = 0) ∨ (s0_20.toInt = 1)) → (s0_20.toInt ≠ 0 → zg v_group p1.toInt = zg v_group p2.toInt) → w_X12_isAlike_20 p1 p2 v_classes v_leads v_group Q s0_20 := by
    intro s0_20 f5 f6 f7 u20_0
    unfold w_X12_isAlike_20
    have j_24 : ∀ n_24 : Nat, ∀ (l3_24 : Int32) (l4_24 : Int32), 0 ≤ l3_24.toInt → l3_24.toInt ≤ s0_20.toInt → 0 ≤ l4_24.toInt → l4_24.toInt ≤ 499 → (l3_24.toInt ≠ 0 → zg v_group p1.toInt = zg v_group p2.toInt) → ((-1) * l4_24.toInt + 500).toNat < n_24 → w_X12_isAlike_24 p1 p2 v_classes v_leads v_group Q n_24 l3_24 l4_24 := by
      intro n_24
      induction n_24 with
      | zero =>
        intro l3_24 l4_24 f8 f9 f10 f11 u24_0 hm_24
        exfalso; omega
      | succ n_24 ih_24 =>
        intro l3_24 l4_24 f8 f9 f10 f11 u24_0 hm_24
        unfold w_X12_isAlike_24
        unfold w_X12_isAlike_24B
        intro x31 ex31
        have f12 : x31.toInt = (zg v_classes 0 : Int) := (zTb_c0 u0 ex31).1
        have j_90 : ((x31.toInt ≤ l4_24.toInt) ∨ (l4_24.toInt + 1 ≤ x31.toInt ∧ l3_24.toInt = 0)) → (l3_24.toInt ≠ 0 → zg v_group p1.toInt = zg v_group p2.toInt) → w_X12_isAlike_90 Q l3_24 := by
          intro f13 u90_0
          unfold w_X12_isAlike_90
          refine ⟨i_01 (by omega) (by omega), ?_⟩
          exact hq l3_24 (by omega) (by omega) (by omega) (by omega) (by omega) (by omega) (by omega) (by omega) (by omega) (by exact u90_0)
        refine ⟨fun c32 => ?_, fun c32 => ?_⟩
        · have f14 : x31.toInt ≤ l4_24.toInt := i_le (a := x31.toInt) (b := l4_24.toInt) rfl rfl c32
          exact j_90  (by omega) (by exact u24_0)
        · have f15 : l4_24.toInt < x31.toInt := i_nle (a := x31.toInt) (b := l4_24.toInt) rfl rfl c32
          refine ⟨fun c36 => ?_, fun c36 => ?_⟩
          · have f16 : l3_24.toInt = 0 := i_eq (a := l3_24.toInt) (b := 0) rfl rfl c36
            exact j_90  (by omega) (by exact u24_0)
          · have f17 : l3_24.toInt ≠ 0 := i_ne (a := l3_24.toInt) (b := 0) rfl rfl c36
            intro x51 ex51
            have f18 : x51.toInt = 500 * p1.toInt := i_mul (a := 500) (b := p1.toInt) ex51 rfl rfl (by omega) (by omega)
            intro x54 ex54
            have f19 : x54.toInt = x51.toInt + l4_24.toInt := i_add (a := x51.toInt) (b := l4_24.toInt) ex54 rfl rfl (by omega) (by omega)
            refine ⟨i_in (by omega) (by omega), ?_⟩
            intro x55 ex55
            have f20 : (0 ≤ x55.toInt ∧ x55.toInt + 1 ≤ (zg v_states 0 : Int)) := zTb_l (q := p1.toInt) (c := l4_24.toInt) u0 ex55 (by omega) (by omega) (by omega) (by omega) (by omega)
            refine ⟨i_in (by omega) (by omega), ?_⟩
            intro x56 ex56
            intro x69 ex69
            have f21 : x69.toInt = 500 * p2.toInt := i_mul (a := 500) (b := p2.toInt) ex69 rfl rfl (by omega) (by omega)
            intro x72 ex72
            have f22 : x72.toInt = x69.toInt + l4_24.toInt := i_add (a := x69.toInt) (b := l4_24.toInt) ex72 rfl rfl (by omega) (by omega)
            refine ⟨i_in (by omega) (by omega), ?_⟩
            intro x73 ex73
            have f23 : (0 ≤ x73.toInt ∧ x73.toInt + 1 ≤ (zg v_states 0 : Int)) := zTb_l (q := p2.toInt) (c := l4_24.toInt) u0 ex73 (by omega) (by omega) (by omega) (by omega) (by omega)
            refine ⟨i_in (by omega) (by omega), ?_⟩
            intro x74 ex74
            have j_83 : ∀ (s0_83 : Int32), 0 ≤ s0_83.toInt → s0_83.toInt ≤ 1 → ((s0_83.toInt = 0) ∨ (s0_83.toInt = 1)) → (s0_83.toInt ≠ 0 → zg v_group p1.toInt = zg v_group p2.toInt) → w_X12_isAlike_83 Q (w_X12_isAlike_24 p1 p2 v_classes v_leads v_group Q n_24) s0_83 l4_24 := by
              intro s0_83 f24 f25 f26 u83_0
              unfold w_X12_isAlike_83
              intro x84 ex84
              have f27 : x84.toInt = l4_24.toInt + 1 := i_add (a := l4_24.toInt) (b := 1) ex84 rfl rfl (by omega) (by omega)
              exact ih_24 s0_83 x84  (by omega) (by omega) (by omega) (by omega) (by first | exact u20_0 | exact u83_0) (by have h8_0 := i_rng l4_24; have h8_1 := i_rng x84; omega)
            refine ⟨fun c75 => ?_, fun c75 => ?_⟩
            · have f28 : x56.toInt ≠ x74.toInt := i_ne (a := x56.toInt) (b := x74.toInt) rfl rfl c75
              exact j_83 0 (by omega) (by omega) (by omega) (by exact fun _ => u24_0 (by omega))
            · have f29 : x56.toInt = x74.toInt := i_eq (a := x56.toInt) (b := x74.toInt) rfl rfl c75
              exact j_83 1 (by omega) (by omega) (by omega) (by exact fun _ => u24_0 (by omega))
    exact ⟨(500 : Int).toNat + 1, j_24   ((500 : Int).toNat + 1) s0_20 0  (by omega) (by omega) (by omega) (by omega) (by first | exact u20_0 | exact u83_0) (by omega)⟩
  refine ⟨fun c12 => ?_, fun c12 => ?_⟩
  · have f30 : x5.toInt ≠ x11.toInt := i_ne (a := x5.toInt) (b := x11.toInt) rfl rfl c12
    exact j_20 0 (by omega) (by omega) (by omega) (by first | exact fun _ => (by rw [← zg_at ex5, ← zg_at ex11]; omega) | exact fun z => absurd rfl z)
  · have f31 : x5.toInt = x11.toInt := i_eq (a := x5.toInt) (b := x11.toInt) rfl rfl c12
    exact j_20 1 (by omega) (by omega) (by omega) (by first | exact fun _ => (by rw [← zg_at ex5, ← zg_at ex11]; omega) | exact fun z => absurd rfl z)
set_option maxHeartbeats 4000000 in
theorem ok_X12_findLive {v_states : Nat → Int32} {v_isTaken : Nat → Bool} {v_isLive : Nat → Bool} {v_classes : Nat → Int32} {v_leads : Nat → Int32} {v_classOf : Nat → Int32} {gbm9 : Int} {Q : (Nat → Bool) → Prop} (u0 : zTb v_states v_classes v_leads v_classOf 0 gbm9) (hq : ∀ (ov_isLive : Nat → Bool), Q ov_isLive) : w_X12_findLive v_states v_isTaken v_isLive v_classes v_leads Q := by
  have q_t : (bz true).toInt = 1 := rfl
  have q_f : (bz false).toInt = 0 := rfl
  have q_0 : (0 : Int32).toInt = 0 := rfl
  have q_1 : (1 : Int32).toInt = 1 := rfl
  unfold w_X12_findLive
  have f1 : (zg v_states 0 : Int) ≤ 60 := u0.1.2
  have f2 : (zg v_classes 0 : Int) ≤ 260 := u0.2.1.2
  have j_4 : ∀ n_4 : Nat, ∀ (l2_4 : Int32) (v_isLive_4 : Nat → Bool), 0 ≤ l2_4.toInt → ((-1) * l2_4.toInt + 2147483648).toNat < n_4 → w_X12_findLive_4 v_states v_isTaken v_classes v_leads Q 1 n_4 l2_4 v_isLive_4 := by
    intro n_4
    induction n_4 with
    | zero =>
      intro l2_4 v_isLive_4 f3 hm_4
      exfalso; omega
    | succ n_4 ih_4 =>
      intro l2_4 v_isLive_4 f3 hm_4
      unfold w_X12_findLive_4
      unfold w_X12_findLive_4B
      intro x10 ex10
      have f4 : x10.toInt = (zg v_states 0 : Int) := (zTb_s0 u0 ex10).1
      have j_32 : ∀ n_32 : Nat, ∀ (l1_32 : Int32) (v_isLive_32 : Nat → Bool) (gm_32 : Int), 0 ≤ l1_32.toInt → l1_32.toInt ≤ 1 → (l1_32.toInt ≠ 0 → 61 - zcB v_isLive_32 60 ≤ gm_32) → (gm_32).toNat < n_32 → w_X12_findLive_32 v_states v_classes v_leads Q n_32 l1_32 v_isLive_32 := by
        intro n_32
        induction n_32 with
        | zero =>
          intro l1_32 v_isLive_32 gm_32 f5 f6 u32_0 hm_32
          exfalso; omega
        | succ n_32 ih_32 =>
          intro l1_32 v_isLive_32 gm_32 f5 f6 u32_0 hm_32
          unfold w_X12_findLive_32
          unfold w_X12_findLive_32B
          refine ⟨fun c33 => ?_, fun c33 => ?_⟩
          · have f7 : l1_32.toInt = 0 := i_eq (a := l1_32.toInt) (b := 0) rfl rfl c33
            exact hq v_isLive_32 
          · have f8 : l1_32.toInt ≠ 0 := i_ne (a := l1_32.toInt) (b := 0) rfl rfl c33
            have h60 := zcB_60 v_isLive_32
            have hg9 := u32_0 (by omega)
            have j_40 : ∀ n_40 : Nat, ∀ (l1_40 : Int32) (l2_40 : Int32) (v_isLive_40 : Nat → Bool), 0 ≤ l1_40.toInt → l1_40.toInt ≤ 1 → l1_40.toInt ≤ l2_40.toInt → l2_40.toInt ≤ 499 → (zLv v_isLive_32 v_isLive_40 l1_40.toInt) → ((-1) * l2_40.toInt + 500).toNat < n_40 → w_X12_findLive_40 v_states v_classes v_leads Q (w_X12_findLive_32 v_states v_classes v_leads Q n_32) n_40 l1_40 l2_40 v_isLive_40 := by
              intro n_40
              induction n_40 with
              | zero =>
                intro l1_40 l2_40 v_isLive_40 f9 f10 f11 f12 u40_0 hm_40
                exfalso; omega
              | succ n_40 ih_40 =>
                intro l1_40 l2_40 v_isLive_40 f9 f10 f11 f12 u40_0 hm_40
                unfold w_X12_findLive_40
                unfold w_X12_findLive_40B
                intro x46 ex46
                have f13 : x46.toInt = x10.toInt := congrArg Int32.toInt (ex46.trans ex10.symm)
                have f14 : x46.toInt = (zg v_states 0 : Int) := (zTb_s0 u0 ex46).1
                refine ⟨fun c47 => ?_, fun c47 => ?_⟩
                · have f15 : x46.toInt ≤ l2_40.toInt := i_le (a := x46.toInt) (b := l2_40.toInt) rfl rfl c47
                  have hb1 := u40_0.1
                  have hb2 := u40_0.2
                  exact ih_32 l1_40 v_isLive_40 (gm_32 - 1) (by omega) (by omega) (by first | exact fun _ => Int.le_refl _ | exact fun z => by have h9 := hb2 z; omega) (by omega)
                · have f16 : l2_40.toInt < x46.toInt := i_nle (a := x46.toInt) (b := l2_40.toInt) rfl rfl c47
                  have j_52 : ∀ n_52 : Nat, ∀ (l1_52 : Int32) (l3_52 : Int32) (v_isLive_52 : Nat → Bool), l1_52.toInt ≤ 1 → l1_40.toInt ≤ l1_52.toInt → 0 ≤ l3_52.toInt → l3_52.toInt ≤ 499 → (zLv v_isLive_32 v_isLive_52 l1_52.toInt) → ((-1) * l3_52.toInt + 500).toNat < n_52 → w_X12_findLive_52 v_classes v_leads Q (w_X12_findLive_32 v_states v_classes v_leads Q n_32) (w_X12_findLive_40 v_states v_classes v_leads Q (w_X12_findLive_32 v_states v_classes v_leads Q n_32) n_40) l2_40 n_52 l1_52 l3_52 v_isLive_52 := by
                    intro n_52
                    induction n_52 with
                    | zero =>
                      intro l1_52 l3_52 v_isLive_52 f17 f18 f19 f20 u52_0 hm_52
                      exfalso; omega
                    | succ n_52 ih_52 =>
                      intro l1_52 l3_52 v_isLive_52 f17 f18 f19 f20 u52_0 hm_52
                      unfold w_X12_findLive_52
                      unfold w_X12_findLive_52B
                      intro x58 ex58
                      have f21 : x58.toInt = (zg v_classes 0 : Int) := (zTb_c0 u0 ex58).1
                      have j_119 : ((x58.toInt ≤ l3_52.toInt) ∨ (l3_52.toInt + 1 ≤ x58.toInt)) → w_X12_findLive_119 Q (w_X12_findLive_32 v_states v_classes v_leads Q n_32) (w_X12_findLive_40 v_states v_classes v_leads Q (w_X12_findLive_32 v_states v_classes v_leads Q n_32) n_40) l1_52 l2_40 v_isLive_52 := by
                        intro f22
                        unfold w_X12_findLive_119
                        intro x119 ex119
                        have f23 : x119.toInt = l2_40.toInt + 1 := i_add (a := l2_40.toInt) (b := 1) ex119 rfl rfl (by omega) (by omega)
                        exact ih_40 l1_52 x119 v_isLive_52  (by omega) (by omega) (by omega) (by omega) (by first | assumption | exact zLv_0) (by have h8_0 := i_rng l2_40; have h8_1 := i_rng x119; omega)
                      refine ⟨fun c59 => ?_, fun c59 => ?_⟩
                      · have f24 : x58.toInt ≤ l3_52.toInt := i_le (a := x58.toInt) (b := l3_52.toInt) rfl rfl c59
                        exact j_119  (by omega)
                      · have f25 : l3_52.toInt < x58.toInt := i_nle (a := x58.toInt) (b := l3_52.toInt) rfl rfl c59
                        refine ⟨i_in (by omega) (by omega), ?_⟩
                        intro x67 ex67
                        have f26 : (0 ≤ x67.toInt ∧ x67.toInt ≤ 1) := i_bz ex67
                        refine ⟨fun c68 => ?_, fun c68 => ?_⟩
                        · have f27 : x67.toInt ≠ 0 := i_ne (a := x67.toInt) (b := 0) rfl rfl c68
                          exact j_119  (by omega)
                        · have f28 : x67.toInt = 0 := i_eq (a := x67.toInt) (b := 0) rfl rfl c68
                          intro x88 ex88
                          have f29 : x88.toInt = 500 * l2_40.toInt := i_mul (a := 500) (b := l2_40.toInt) ex88 rfl rfl (by omega) (by omega)
                          intro x90 ex90
                          have f30 : x90.toInt = x88.toInt + l3_52.toInt := i_add (a := x88.toInt) (b := l3_52.toInt) ex90 rfl rfl (by omega) (by omega)
                          refine ⟨i_in (by omega) (by omega), ?_⟩
                          intro x91 ex91
                          have f31 : (0 ≤ x91.toInt ∧ x91.toInt + 1 ≤ (zg v_states 0 : Int)) := zTb_l (q := l2_40.toInt) (c := l3_52.toInt) u0 ex91 (by omega) (by omega) (by omega) (by omega) (by omega)
                          refine ⟨i_in (by omega) (by omega), ?_⟩
                          intro x92 ex92
                          have f32 : (0 ≤ x92.toInt ∧ x92.toInt ≤ 1) := i_bz ex92
                          refine ⟨i_in (by omega) (by omega), ?_⟩
                          intro g93 eg93
                          have j_112 : ∀ (s0_112 : Int32), ((s0_112.toInt = 0 ∧ l1_52.toInt = 0) ∨ (s0_112.toInt = 1)) → (zLv v_isLive_32 g93 s0_112.toInt) → w_X12_findLive_112 Q (w_X12_findLive_32 v_states v_classes v_leads Q n_32) (w_X12_findLive_40 v_states v_classes v_leads Q (w_X12_findLive_32 v_states v_classes v_leads Q n_32) n_40) (w_X12_findLive_52 v_classes v_leads Q (w_X12_findLive_32 v_states v_classes v_leads Q n_32) (w_X12_findLive_40 v_states v_classes v_leads Q (w_X12_findLive_32 v_states v_classes v_leads Q n_32) n_40) l2_40 n_52) s0_112 l3_52 g93 := by
                            intro s0_112 f33 u112_0
                            unfold w_X12_findLive_112
                            intro x113 ex113
                            have f34 : x113.toInt = l3_52.toInt + 1 := i_add (a := l3_52.toInt) (b := 1) ex113 rfl rfl (by omega) (by omega)
                            exact ih_52 s0_112 x113 g93  (by omega) (by omega) (by omega) (by omega) (by assumption) (by have h8_0 := i_rng l3_52; have h8_1 := i_rng x113; omega)
                          have j_107 : (l1_52.toInt ≠ 0 ∨ g93 l2_40.toNatClampNeg = true) → w_X12_findLive_107 Q (w_X12_findLive_32 v_states v_classes v_leads Q n_32) (w_X12_findLive_40 v_states v_classes v_leads Q (w_X12_findLive_32 v_states v_classes v_leads Q n_32) n_40) (w_X12_findLive_52 v_classes v_leads Q (w_X12_findLive_32 v_states v_classes v_leads Q n_32) (w_X12_findLive_40 v_states v_classes v_leads Q (w_X12_findLive_32 v_states v_classes v_leads Q n_32) n_40) l2_40 n_52) l3_52 g93 := by
                            intro u107_0
                            unfold w_X12_findLive_107
                            exact j_112 1 (by omega) (by first | exact zLv_s u52_0 ex67 (by omega) eg93 (by omega) (by omega) (fun _ => u107_0) | exact zLv_s u52_0 ex67 (by omega) eg93 (by omega) (by omega) (fun z => (z rfl).elim))
                          refine ⟨fun c95 => ?_, fun c95 => ?_⟩
                          · have f35 : l1_52.toInt ≠ 0 := i_ne (a := l1_52.toInt) (b := 0) rfl rfl c95
                            exact j_107  (by first | exact Or.inr (zbz_t ex103 (by omega)) | exact Or.inl (by omega))
                          · have f36 : l1_52.toInt = 0 := i_eq (a := l1_52.toInt) (b := 0) rfl rfl c95
                            refine ⟨i_in (by omega) (by omega), ?_⟩
                            intro x103 ex103
                            have f37 : (0 ≤ x103.toInt ∧ x103.toInt ≤ 1) := i_bz ex103
                            refine ⟨fun c104 => ?_, fun c104 => ?_⟩
                            · have f38 : x103.toInt = 0 := i_eq (a := x103.toInt) (b := 0) rfl rfl c104
                              exact j_112 0 (by omega) (by first | exact zLv_s u52_0 ex67 (by omega) eg93 (by omega) (by omega) (fun _ => u107_0) | exact zLv_s u52_0 ex67 (by omega) eg93 (by omega) (by omega) (fun z => (z rfl).elim))
                            · have f39 : x103.toInt ≠ 0 := i_ne (a := x103.toInt) (b := 0) rfl rfl c104
                              exact j_107  (by first | exact Or.inr (zbz_t ex103 (by omega)) | exact Or.inl (by omega))
                  exact ⟨(500 : Int).toNat + 1, j_52   ((500 : Int).toNat + 1) l1_40 0 v_isLive_40  (by omega) (by omega) (by omega) (by omega) (by assumption) (by omega)⟩
            exact ⟨(500 : Int).toNat + 1, j_40   ((500 : Int).toNat + 1) 0 0 v_isLive_32  (by omega) (by omega) (by omega) (by omega) (by first | assumption | exact zLv_0) (by omega)⟩
      refine ⟨fun c11 => ?_, fun c11 => ?_⟩
      · have f40 : x10.toInt ≤ l2_4.toInt := i_le (a := x10.toInt) (b := l2_4.toInt) rfl rfl c11
        exact ⟨((61 - zcB v_isLive_4 60)).toNat + 1, j_32   (((61 - zcB v_isLive_4 60)).toNat + 1) 1 v_isLive_4 (61 - zcB v_isLive_4 60) (by omega) (by omega) (by first | exact fun _ => Int.le_refl _ | exact fun z => by have h9 := hb2 z; omega) (by omega)⟩
      · have f41 : l2_4.toInt < x10.toInt := i_nle (a := x10.toInt) (b := l2_4.toInt) rfl rfl c11
        refine ⟨i_in (by omega) (by omega), ?_⟩
        intro x24 ex24
        have f42 : (0 ≤ x24.toInt ∧ x24.toInt ≤ 1) := i_bz ex24
        refine ⟨i_in (by omega) (by omega), ?_⟩
        intro g25 eg25
        intro x26 ex26
        have f43 : x26.toInt = l2_4.toInt + 1 := i_add (a := l2_4.toInt) (b := 1) ex26 rfl rfl (by omega) (by omega)
        exact ih_4 x26 g25  (by omega) (by have h8_0 := i_rng l2_4; have h8_1 := i_rng x26; omega)
  exact ⟨(2147483648 : Int).toNat + 1, j_4   ((2147483648 : Int).toNat + 1) 0 v_isLive  (by omega) (by omega)⟩
set_option maxHeartbeats 4000000 in
theorem ok_X12_meet {p1 : Int32} {p2 : Int32} {p3 : Int32} {p4 : Int32} {v_pairs : Int32} {v_pairA : Nat → Int32} {v_pairB : Nat → Int32} {v_pairFrom : Nat → Int32} {v_pairSign : Nat → Int32} {v_isPair : Nat → Bool} {gP9 : Nat} {gs0 : Int} {gs1 : Int} {Q : Int32 → (Nat → Int32) → (Nat → Int32) → (Nat → Int32) → (Nat → Int32) → (Nat → Bool) → Prop} (a0 : 0 ≤ p1.toInt) (a1 : p1.toInt ≤ 59) (a2 : 0 ≤ p2.toInt) (a3 : p2.toInt ≤ 59) (a4 : 0 ≤ p3.toInt + 1) (a5 : p3.toInt + 1 ≤ v_pairs.toInt) (a6 : 0 ≤ v_pairs.toInt) (a7 : v_pairs.toInt ≤ 3800) (b0 : rp (fun k v => 0 ≤ v ∧ v ≤ 59) v_pairA 0 v_pairs.toInt) (b1 : rp (fun k v => 0 ≤ v ∧ v ≤ 59) v_pairB 0 v_pairs.toInt) (b2 : rp (fun k v => v < k ∧ -1 ≤ v) v_pairFrom 0 v_pairs.toInt) (u0 : (gP9 : Int) = 3800) (u1 : v_pairs.toInt = zcB v_isPair gP9) (u2 : zPp v_pairA v_pairB gs0 gs1 v_pairs.toInt) (u3 : p1.toInt < gs0) (u4 : p2.toInt < gs1) (hq : ∀ (ov_pairs : Int32) (ov_pairA : Nat → Int32) (ov_pairB : Nat → Int32) (ov_pairFrom : Nat → Int32) (ov_pairSign : Nat → Int32) (ov_isPair : Nat → Bool), v_pairs.toInt ≤ ov_pairs.toInt → ov_pairs.toInt ≤ 3800 → rp (fun k v => 0 ≤ v ∧ v ≤ 59) ov_pairA 0 v_pairs.toInt → rp (fun k v => 0 ≤ v ∧ v ≤ 59) ov_pairA 0 ov_pairs.toInt → rp (fun k v => 0 ≤ v ∧ v ≤ 59) ov_pairB 0 v_pairs.toInt → rp (fun k v => 0 ≤ v ∧ v ≤ 59) ov_pairB 0 ov_pairs.toInt → rp (fun k v => v < k ∧ -1 ≤ v) ov_pairFrom 0 v_pairs.toInt → rp (fun k v => v < k ∧ -1 ≤ v) ov_pairFrom 0 ov_pairs.toInt → (ov_pairs.toInt = zcB ov_isPair gP9) → (zPp ov_pairA ov_pairB gs0 gs1 ov_pairs.toInt) → Q ov_pairs ov_pairA ov_pairB ov_pairFrom ov_pairSign ov_isPair) : w_X12_meet p1 p2 p3 p4 v_pairs v_pairA v_pairB v_pairFrom v_pairSign v_isPair Q := by
  have q_t : (bz true).toInt = 1 := rfl
  have q_f : (bz false).toInt = 0 := rfl
  unfold w_X12_meet
  intro x7 ex7
  have f1 : x7.toInt = 61 * p1.toInt := i_mul (a := 61) (b := p1.toInt) ex7 rfl rfl (by omega) (by omega)
  intro x9 ex9
  have f2 : x9.toInt = x7.toInt + p2.toInt := i_add (a := x7.toInt) (b := p2.toInt) ex9 rfl rfl (by omega) (by omega)
  refine ⟨i_in (by omega) (by omega), ?_⟩
  intro x10 ex10
  have f3 : (0 ≤ x10.toInt ∧ x10.toInt ≤ 1) := i_bz ex10
  have j_77 : ∀ (v_pairs_77 : Int32) (v_pairA_77 : Nat → Int32) (v_pairB_77 : Nat → Int32) (v_pairFrom_77 : Nat → Int32) (v_pairSign_77 : Nat → Int32) (v_isPair_77 : Nat → Bool), v_pairs.toInt ≤ v_pairs_77.toInt → v_pairs_77.toInt ≤ 3800 → ((v_pairs_77.toInt = v_pairs.toInt) ∨ (x10.toInt = 0 ∧ v_pairs.toInt ≤ 3799 ∧ v_pairs_77.toInt = v_pairs.toInt + 1)) → rp (fun k v => 0 ≤ v ∧ v ≤ 59) v_pairA_77 0 v_pairs.toInt → rp (fun k v => 0 ≤ v ∧ v ≤ 59) v_pairA_77 0 v_pairs_77.toInt → rp (fun k v => 0 ≤ v ∧ v ≤ 59) v_pairB_77 0 v_pairs.toInt → rp (fun k v => 0 ≤ v ∧ v ≤ 59) v_pairB_77 0 v_pairs_77.toInt → rp (fun k v => v < k ∧ -1 ≤ v) v_pairFrom_77 0 v_pairs.toInt → rp (fun k v => v < k ∧ -1 ≤ v) v_pairFrom_77 0 v_pairs_77.toInt → (v_pairs_77.toInt = zcB v_isPair_77 gP9) → (zPp v_pairA_77 v_pairB_77 gs0 gs1 v_pairs_77.toInt) → w_X12_meet_77 Q v_pairs_77 v_pairA_77 v_pairB_77 v_pairFrom_77 v_pairSign_77 v_isPair_77 := by
    intro v_pairs_77 v_pairA_77 v_pairB_77 v_pairFrom_77 v_pairSign_77 v_isPair_77 f4 f5 f6 h7 h8 h9 h10 h11 h12 u77_0 u77_1
    unfold w_X12_meet_77
    exact hq v_pairs_77 v_pairA_77 v_pairB_77 v_pairFrom_77 v_pairSign_77 v_isPair_77 (by omega) (by omega) (rp_mono h8 (by omega) (by omega)) (rp_mono h8 (by omega) (by omega)) (rp_mono h10 (by omega) (by omega)) (rp_mono h10 (by omega) (by omega)) (rp_mono h12 (by omega) (by omega)) (rp_mono h12 (by omega) (by omega)) (by assumption) (by assumption)
  refine ⟨fun c11 => ?_, fun c11 => ?_⟩
  · have f13 : x10.toInt ≠ 0 := i_ne (a := x10.toInt) (b := 0) rfl rfl c11
    exact j_77 v_pairs v_pairA v_pairB v_pairFrom v_pairSign v_isPair (by omega) (by omega) (by omega) (rp_mono b0 (by omega) (by omega)) (rp_mono b0 (by omega) (by omega)) (rp_mono b1 (by omega) (by omega)) (rp_mono b1 (by omega) (by omega)) (rp_mono b2 (by omega) (by omega)) (rp_mono b2 (by omega) (by omega)) (by first | assumption | (rw [zcB_inc eg25 (by decide) (by omega) (by omega) (zbzf_eq ex10 (by omega) (by omega))]; omega)) (by first | assumption | exact zPp_w u2 eg35 eg45 (by omega) (by omega) (by omega) (by omega))
  · have f14 : x10.toInt = 0 := i_eq (a := x10.toInt) (b := 0) rfl rfl c11
    have hf9 := zbz_f ex10 (by omega)
    have hl9 := zcB_lt (n := gP9) (show 0 ≤ x9.toInt by omega) (by omega) hf9
    have f15 : v_pairs.toInt ≤ 3799 := by omega
    intro x21 ex21
    have f16 : x21.toInt = 61 * p1.toInt := i_mul (a := 61) (b := p1.toInt) ex21 rfl rfl (by omega) (by omega)
    intro x23 ex23
    have f17 : x23.toInt = x21.toInt + p2.toInt := i_add (a := x21.toInt) (b := p2.toInt) ex23 rfl rfl (by omega) (by omega)
    refine ⟨i_in (by omega) (by omega), ?_⟩
    intro g25 eg25
    refine ⟨i_in (by omega) (by omega), ?_⟩
    intro g35 eg35
    have h18 : rp (fun k v => 0 ≤ v ∧ v ≤ 59) g35 0 (v_pairs.toInt + 1) := rp_ext (P := (fun k v => 0 ≤ v ∧ v ≤ 59)) (a := v_pairs.toInt) (b := p1.toInt) b0 eg35 rfl rfl (by omega) (by omega) ⟨(by omega), (by omega)⟩
    refine ⟨i_in (by omega) (by omega), ?_⟩
    intro g45 eg45
    have h19 : rp (fun k v => 0 ≤ v ∧ v ≤ 59) g45 0 (v_pairs.toInt + 1) := rp_ext (P := (fun k v => 0 ≤ v ∧ v ≤ 59)) (a := v_pairs.toInt) (b := p2.toInt) b1 eg45 rfl rfl (by omega) (by omega) ⟨(by omega), (by omega)⟩
    refine ⟨i_in (by omega) (by omega), ?_⟩
    intro g55 eg55
    have h20 : rp (fun k v => v < k ∧ -1 ≤ v) g55 0 (v_pairs.toInt + 1) := rp_ext (P := (fun k v => v < k ∧ -1 ≤ v)) (a := v_pairs.toInt) (b := p3.toInt) b2 eg55 rfl rfl (by omega) (by omega) ⟨(by omega), (by omega)⟩
    refine ⟨i_in (by omega) (by omega), ?_⟩
    intro g66 eg66
    intro x73 ex73
    have f21 : x73.toInt = v_pairs.toInt + 1 := i_add (a := v_pairs.toInt) (b := 1) ex73 rfl rfl (by omega) (by omega)
    exact j_77 x73 g35 g45 g55 g66 g25 (by omega) (by omega) (by omega) (rp_mono h18 (by omega) (by omega)) (rp_mono h18 (by omega) (by omega)) (rp_mono h19 (by omega) (by omega)) (rp_mono h19 (by omega) (by omega)) (rp_mono h20 (by omega) (by omega)) (rp_mono h20 (by omega) (by omega)) (by first | assumption | (rw [zcB_inc eg25 (by decide) (by omega) (by omega) (zbzf_eq ex10 (by omega) (by omega))]; omega)) (by first | assumption | exact zPp_w u2 eg35 eg45 (by omega) (by omega) (by omega) (by omega))
set_option maxHeartbeats 4000000 in
theorem ok_X12_isParted {p1 : Int32} {v_pairs : Int32} {v_isTaken : Nat → Bool} {v_pairA : Nat → Int32} {v_pairB : Nat → Int32} {Q : Int32 → Prop} (a0 : 0 ≤ p1.toInt) (a1 : p1.toInt + 1 ≤ v_pairs.toInt) (a2 : 0 ≤ v_pairs.toInt) (a3 : v_pairs.toInt ≤ 3800) (b0 : rp (fun k v => 0 ≤ v ∧ v ≤ 59) v_pairA 0 v_pairs.toInt) (b1 : rp (fun k v => 0 ≤ v ∧ v ≤ 59) v_pairB 0 v_pairs.toInt) (hq : ∀ (r : Int32), 0 ≤ r.toInt → r.toInt ≤ 1 → Q r) : w_X12_isParted p1 v_isTaken v_pairA v_pairB Q := by
  have q_t : (bz true).toInt = 1 := rfl
  have q_f : (bz false).toInt = 0 := rfl
  have q_0 : (0 : Int32).toInt = 0 := rfl
  have q_1 : (1 : Int32).toInt = 1 := rfl
  unfold w_X12_isParted
  refine ⟨i_in (by omega) (by omega), ?_⟩
  intro x9 ex9
  have f1 : 0 ≤ x9.toInt ∧ x9.toInt ≤ 59 := by have h9 := rp_get (P := (fun k v => 0 ≤ v ∧ v ≤ 59)) (a := p1.toInt) b0 ex9 rfl (by omega) (by omega) (by omega); omega
  refine ⟨i_in (by omega) (by omega), ?_⟩
  intro x10 ex10
  have f2 : (0 ≤ x10.toInt ∧ x10.toInt ≤ 1) := i_bz ex10
  refine ⟨i_in (by omega) (by omega), ?_⟩
  intro x22 ex22
  have f3 : 0 ≤ x22.toInt ∧ x22.toInt ≤ 59 := by have h9 := rp_get (P := (fun k v => 0 ≤ v ∧ v ≤ 59)) (a := p1.toInt) b1 ex22 rfl (by omega) (by omega) (by omega); omega
  intro x23 ex23
  have f4 : x23.toInt = 61 + x22.toInt := i_add (a := 61) (b := x22.toInt) ex23 rfl rfl (by omega) (by omega)
  refine ⟨i_in (by omega) (by omega), ?_⟩
  intro x24 ex24
  have f5 : (0 ≤ x24.toInt ∧ x24.toInt ≤ 1) := i_bz ex24
  have j_33 : ∀ (s0_33 : Int32), 0 ≤ s0_33.toInt → s0_33.toInt ≤ 1 → ((s0_33.toInt = 0 ∧ x10.toInt = x24.toInt) ∨ (s0_33.toInt = 1)) → w_X12_isParted_33 Q s0_33 := by
    intro s0_33 f6 f7 f8
    unfold w_X12_isParted_33
    refine ⟨i_01 (by omega) (by omega), ?_⟩
    exact hq s0_33 (by omega) (by omega)
  refine ⟨fun c25 => ?_, fun c25 => ?_⟩
  · have f9 : x10.toInt = x24.toInt := i_eq (a := x10.toInt) (b := x24.toInt) rfl rfl c25
    exact j_33 0 (by omega) (by omega) (by omega)
  · have f10 : x10.toInt ≠ x24.toInt := i_ne (a := x10.toInt) (b := x24.toInt) rfl rfl c25
    exact j_33 1 (by omega) (by omega) (by omega)
set_option maxHeartbeats 4000000 in
theorem ok_X12_findSorts {v_boundMany : Int32} {v_bounds : Nat → Int32} {v_classOf : Nat → Int32} {v_sortA : Nat → Int32} {v_sortB : Nat → Int32} {v_sortSign : Nat → Int32} {v_states : Nat → Int32} {v_classes : Nat → Int32} {v_leads : Nat → Int32} {Q : Int32 → (Nat → Int32) → (Nat → Int32) → (Nat → Int32) → Prop} (a0 : 1 ≤ v_boundMany.toInt) (a1 : v_boundMany.toInt ≤ 260) (b0 : rp (fun k v => 0 ≤ v ∧ v ≤ 65535) v_bounds 0 v_boundMany.toInt) (u0 : zTb v_states v_classes v_leads v_classOf 0 v_boundMany.toInt) (u1 : zTb v_states v_classes v_leads v_classOf 1 v_boundMany.toInt) (hq : ∀ (ov_sorts : Int32) (ov_sortA : Nat → Int32) (ov_sortB : Nat → Int32) (ov_sortSign : Nat → Int32), 0 ≤ ov_sorts.toInt + 1 → 0 ≤ ov_sorts.toInt → ov_sorts.toInt ≤ 2999 → ov_sorts.toInt ≤ 3000 → ov_sorts.toInt ≤ 3001 → ov_sorts.toInt ≤ v_boundMany.toInt → ov_sorts.toInt ≤ v_boundMany.toInt + 1 → ov_sorts.toInt ≤ 260 → (zSo ov_sortA ov_sortB v_classes ov_sorts.toInt) → Q ov_sorts ov_sortA ov_sortB ov_sortSign) : w_X12_findSorts v_boundMany v_bounds v_classOf v_sortA v_sortB v_sortSign Q := by
  have q_t : (bz true).toInt = 1 := rfl
  have q_f : (bz false).toInt = 0 := rfl
  have q_0 : (0 : Int32).toInt = 0 := rfl
  unfold w_X12_findSorts
  have j_7 : ∀ n_7 : Nat, ∀ (l1_7 : Int32) (v_sorts_7 : Int32) (v_sortA_7 : Nat → Int32) (v_sortB_7 : Nat → Int32) (v_sortSign_7 : Nat → Int32), l1_7.toInt ≤ v_boundMany.toInt → 0 ≤ v_sorts_7.toInt → v_sorts_7.toInt ≤ l1_7.toInt → (zSo v_sortA_7 v_sortB_7 v_classes v_sorts_7.toInt) → ((-1) * l1_7.toInt + 3000).toNat < n_7 → w_X12_findSorts_7 v_boundMany v_bounds v_classOf Q n_7 l1_7 v_sorts_7 v_sortA_7 v_sortB_7 v_sortSign_7 := by
    intro n_7
    induction n_7 with
    | zero =>
      intro l1_7 v_sorts_7 v_sortA_7 v_sortB_7 v_sortSign_7 f1 f2 f3 u7_0 hm_7
      exfalso; omega
    | succ n_7 ih_7 =>
      intro l1_7 v_sorts_7 v_sortA_7 v_sortB_7 v_sortSign_7 f1 f2 f3 u7_0 hm_7
      unfold w_X12_findSorts_7
      unfold w_X12_findSorts_7B
      refine ⟨fun c12 => ?_, fun c12 => ?_⟩
      · have f4 : v_boundMany.toInt ≤ l1_7.toInt := i_le (a := v_boundMany.toInt) (b := l1_7.toInt) rfl rfl c12
        exact hq v_sorts_7 v_sortA_7 v_sortB_7 v_sortSign_7 (by omega) (by omega) (by omega) (by omega) (by omega) (by omega) (by omega) (by omega) (by assumption)
      · have f5 : l1_7.toInt < v_boundMany.toInt := i_nle (a := v_boundMany.toInt) (b := l1_7.toInt) rfl rfl c12
        refine ⟨i_in (by omega) (by omega), ?_⟩
        intro x20 ex20
        have hx9 := zTb_o (b := l1_7.toInt) u0 ex20 (by omega) (by omega) (by omega)
        intro x30 ex30
        have f6 : x30.toInt = 3000 + l1_7.toInt := i_add (a := 3000) (b := l1_7.toInt) ex30 rfl rfl (by omega) (by omega)
        refine ⟨i_in (by omega) (by omega), ?_⟩
        intro x31 ex31
        have hy9 := zTb_o (b := l1_7.toInt) u1 ex31 (by omega) (by omega) (by omega)
        have j_36 : ∀ n_36 : Nat, ∀ (l4_36 : Int32), 0 ≤ l4_36.toInt → l4_36.toInt ≤ v_sorts_7.toInt → ((-1) * l4_36.toInt + 2147483648).toNat < n_36 → w_X12_findSorts_36 v_bounds Q (w_X12_findSorts_7 v_boundMany v_bounds v_classOf Q n_7) l1_7 x20 x31 v_sorts_7 v_sortA_7 v_sortB_7 v_sortSign_7 n_36 l4_36 := by
          intro n_36
          induction n_36 with
          | zero =>
            intro l4_36 f7 f8 hm_36
            exfalso; omega
          | succ n_36 ih_36 =>
            intro l4_36 f7 f8 hm_36
            unfold w_X12_findSorts_36
            unfold w_X12_findSorts_36B
            have j_73 : ((v_sorts_7.toInt ≤ l4_36.toInt) ∨ (l4_36.toInt + 1 ≤ v_sorts_7.toInt)) → w_X12_findSorts_73 v_bounds Q (w_X12_findSorts_7 v_boundMany v_bounds v_classOf Q n_7) l1_7 x20 x31 l4_36 v_sorts_7 v_sortA_7 v_sortB_7 v_sortSign_7 := by
              intro f9
              unfold w_X12_findSorts_73
              have j_121 : ∀ (v_sorts_121 : Int32) (v_sortA_121 : Nat → Int32) (v_sortB_121 : Nat → Int32) (v_sortSign_121 : Nat → Int32), v_sorts_7.toInt ≤ v_sorts_121.toInt → v_sorts_121.toInt ≤ v_sorts_7.toInt + 1 → ((v_sorts_121.toInt = v_sorts_7.toInt) ∨ (l4_36.toInt = v_sorts_7.toInt ∧ v_sorts_121.toInt = v_sorts_7.toInt + 1)) → 1 ≤ v_sorts_121.toInt → (zSo v_sortA_121 v_sortB_121 v_classes v_sorts_121.toInt) → w_X12_findSorts_121 Q (w_X12_findSorts_7 v_boundMany v_bounds v_classOf Q n_7) l1_7 v_sorts_121 v_sortA_121 v_sortB_121 v_sortSign_121 := by
                intro v_sorts_121 v_sortA_121 v_sortB_121 v_sortSign_121 f10 f11 f12 f13 u121_0
                unfold w_X12_findSorts_121
                intro x121 ex121
                have f14 : x121.toInt = l1_7.toInt + 1 := i_add (a := l1_7.toInt) (b := 1) ex121 rfl rfl (by omega) (by omega)
                exact ih_7 x121 v_sorts_121 v_sortA_121 v_sortB_121 v_sortSign_121  (by omega) (by omega) (by omega) (by first | assumption | exact zSo_0) (by have h8_0 := i_rng l1_7; have h8_1 := i_rng x121; omega)
              refine ⟨fun c79 => ?_, fun c79 => ?_⟩
              · have f15 : l4_36.toInt ≠ v_sorts_7.toInt := i_ne (a := l4_36.toInt) (b := v_sorts_7.toInt) rfl rfl c79
                exact j_121 v_sorts_7 v_sortA_7 v_sortB_7 v_sortSign_7 (by omega) (by omega) (by omega) (by omega) (by first | assumption | exact zSo_w u7_0 eg89 eg97 hx9 hy9 (by omega) (by omega) (by omega))
              · have f16 : l4_36.toInt = v_sorts_7.toInt := i_eq (a := l4_36.toInt) (b := v_sorts_7.toInt) rfl rfl c79
                refine ⟨i_in (by omega) (by omega), ?_⟩
                intro g89 eg89
                refine ⟨i_in (by omega) (by omega), ?_⟩
                intro g97 eg97
                refine ⟨i_in (by omega) (by omega), ?_⟩
                intro x109 ex109
                have f17 : 0 ≤ x109.toInt ∧ x109.toInt ≤ 65535 := by have h9 := rp_get (P := (fun k v => 0 ≤ v ∧ v ≤ 65535)) (a := l1_7.toInt) b0 ex109 rfl (by omega) (by omega) (by omega); omega
                refine ⟨i_in (by omega) (by omega), ?_⟩
                intro g110 eg110
                intro x117 ex117
                have f18 : x117.toInt = v_sorts_7.toInt + 1 := i_add (a := v_sorts_7.toInt) (b := 1) ex117 rfl rfl (by omega) (by omega)
                exact j_121 x117 g89 g97 g110 (by omega) (by omega) (by omega) (by omega) (by first | assumption | exact zSo_w u7_0 eg89 eg97 hx9 hy9 (by omega) (by omega) (by omega))
            refine ⟨fun c42 => ?_, fun c42 => ?_⟩
            · have f19 : v_sorts_7.toInt ≤ l4_36.toInt := i_le (a := v_sorts_7.toInt) (b := l4_36.toInt) rfl rfl c42
              exact j_73  (by omega)
            · have f20 : l4_36.toInt < v_sorts_7.toInt := i_nle (a := v_sorts_7.toInt) (b := l4_36.toInt) rfl rfl c42
              refine ⟨i_in (by omega) (by omega), ?_⟩
              intro x51 ex51
              have j_67 : w_X12_findSorts_67 Q (w_X12_findSorts_7 v_boundMany v_bounds v_classOf Q n_7) (w_X12_findSorts_36 v_bounds Q (w_X12_findSorts_7 v_boundMany v_bounds v_classOf Q n_7) l1_7 x20 x31 v_sorts_7 v_sortA_7 v_sortB_7 v_sortSign_7 n_36) l4_36 := by
                unfold w_X12_findSorts_67
                intro x67 ex67
                have f21 : x67.toInt = l4_36.toInt + 1 := i_add (a := l4_36.toInt) (b := 1) ex67 rfl rfl (by omega) (by omega)
                exact ih_36 x67  (by omega) (by omega) (by have h8_0 := i_rng l4_36; have h8_1 := i_rng x67; omega)
              refine ⟨fun c53 => ?_, fun c53 => ?_⟩
              · have f22 : x51.toInt ≠ x20.toInt := i_ne (a := x51.toInt) (b := x20.toInt) rfl rfl c53
                exact j_67  
              · have f23 : x51.toInt = x20.toInt := i_eq (a := x51.toInt) (b := x20.toInt) rfl rfl c53
                refine ⟨i_in (by omega) (by omega), ?_⟩
                intro x62 ex62
                refine ⟨fun c64 => ?_, fun c64 => ?_⟩
                · have f24 : x62.toInt = x31.toInt := i_eq (a := x62.toInt) (b := x31.toInt) rfl rfl c64
                  exact j_73  (by omega)
                · have f25 : x62.toInt ≠ x31.toInt := i_ne (a := x62.toInt) (b := x31.toInt) rfl rfl c64
                  exact j_67  
        exact ⟨(2147483648 : Int).toNat + 1, j_36   ((2147483648 : Int).toNat + 1) 0  (by omega) (by omega) (by omega)⟩
  exact ⟨(3000 : Int).toNat + 1, j_7   ((3000 : Int).toNat + 1) 0 0 v_sortA v_sortB v_sortSign  (by omega) (by omega) (by omega) (by first | assumption | exact zSo_0) (by omega)⟩
set_option maxHeartbeats 4000000 in
theorem ok_X12_findPairs {v_pairs : Int32} {v_sorts : Int32} {v_leads : Nat → Int32} {v_pairA : Nat → Int32} {v_pairB : Nat → Int32} {v_pairFrom : Nat → Int32} {v_pairSign : Nat → Int32} {v_isPair : Nat → Bool} {v_sortA : Nat → Int32} {v_sortB : Nat → Int32} {v_sortSign : Nat → Int32} {v_states : Nat → Int32} {v_classes : Nat → Int32} {v_classOf : Nat → Int32} {gP9 : Nat} {gbm9 : Int} {Q : Int32 → (Nat → Int32) → (Nat → Int32) → (Nat → Int32) → (Nat → Int32) → (Nat → Bool) → Prop} (a0 : 0 ≤ v_sorts.toInt) (a1 : v_sorts.toInt ≤ 260) (b0 : rp (fun k v => 0 ≤ v ∧ v ≤ 59) v_pairA 0 v_pairs.toInt) (b1 : rp (fun k v => 0 ≤ v ∧ v ≤ 59) v_pairB 0 v_pairs.toInt) (b2 : rp (fun k v => v < k ∧ -1 ≤ v) v_pairFrom 0 v_pairs.toInt) (u0 : zTb v_states v_classes v_leads v_classOf 0 gbm9) (u1 : zTb v_states v_classes v_leads v_classOf 1 gbm9) (u2 : zSo v_sortA v_sortB v_classes v_sorts.toInt) (u3 : (gP9 : Int) = 3800) (hq : ∀ (ov_pairs : Int32) (ov_pairA : Nat → Int32) (ov_pairB : Nat → Int32) (ov_pairFrom : Nat → Int32) (ov_pairSign : Nat → Int32) (ov_isPair : Nat → Bool), 0 ≤ ov_pairs.toInt + 1 → 0 ≤ ov_pairs.toInt → ov_pairs.toInt ≤ 3800 → ov_pairs.toInt ≤ 30499 → ov_pairs.toInt ≤ 30500 → ov_pairs.toInt ≤ 30501 → rp (fun k v => 0 ≤ v ∧ v ≤ 59) ov_pairA 0 0 → rp (fun k v => 0 ≤ v ∧ v ≤ 59) ov_pairA 0 ov_pairs.toInt → rp (fun k v => 0 ≤ v ∧ v ≤ 59) ov_pairB 0 0 → rp (fun k v => 0 ≤ v ∧ v ≤ 59) ov_pairB 0 ov_pairs.toInt → rp (fun k v => v < k ∧ -1 ≤ v) ov_pairFrom 0 0 → rp (fun k v => v < k ∧ -1 ≤ v) ov_pairFrom 0 ov_pairs.toInt → (zPp ov_pairA ov_pairB (zg v_states 0) (zg v_states 1) ov_pairs.toInt) → Q ov_pairs ov_pairA ov_pairB ov_pairFrom ov_pairSign ov_isPair) : w_X12_findPairs v_pairs v_sorts v_leads v_pairA v_pairB v_pairFrom v_pairSign v_isPair v_sortA v_sortB v_sortSign Q := by
  have q_t : (bz true).toInt = 1 := rfl
  have q_f : (bz false).toInt = 0 := rfl
  have q_m1 : ((-1) : Int32).toInt = (-1) := rfl
  have q_0 : (0 : Int32).toInt = 0 := rfl
  unfold w_X12_findPairs
  have f1 : (zg v_states 0 : Int) ≤ 60 := u0.1.2
  have f2 : (zg v_classes 0 : Int) ≤ 260 := u0.2.1.2
  have f3 : (zg v_states 1 : Int) ≤ 60 := u1.1.2
  have f4 : (zg v_classes 1 : Int) ≤ 260 := u1.2.1.2
  have f5 : 1 ≤ (zg v_states 0 : Int) := u0.1.1
  have f6 : 1 ≤ (zg v_states 1 : Int) := u1.1.1
  have j_2 : ∀ n_2 : Nat, ∀ (l1_2 : Int32) (v_isPair_2 : Nat → Bool), 0 ≤ l1_2.toInt → l1_2.toInt ≤ 3800 → (zOff v_isPair_2 l1_2.toInt) → ((-1) * l1_2.toInt + 3800).toNat < n_2 → w_X12_findPairs_2 v_sorts v_leads v_sortA v_sortB v_sortSign Q v_pairs v_pairA v_pairB v_pairFrom v_pairSign n_2 l1_2 v_isPair_2 := by
    intro n_2
    induction n_2 with
    | zero =>
      intro l1_2 v_isPair_2 f7 f8 u2_0 hm_2
      exfalso; omega
    | succ n_2 ih_2 =>
      intro l1_2 v_isPair_2 f7 f8 u2_0 hm_2
      unfold w_X12_findPairs_2
      unfold w_X12_findPairs_2B
      refine ⟨fun c6 => ?_, fun c6 => ?_⟩
      · have f9 : 3800 ≤ l1_2.toInt := i_le (a := 3800) (b := l1_2.toInt) rfl rfl c6
        have hz9 : zcB v_isPair_2 gP9 = 0 := zNp_c (fun j j0 j1 => u2_0 j j0 (by omega))
        refine ok_X12_meet (gP9 := gP9) (gs0 := (zg v_states 0)) (gs1 := (zg v_states 1)) (by omega) (by omega) (by omega) (by omega) (by omega) (by omega) (by omega) (by omega) (rp_nil (by omega)) (rp_nil (by omega)) (rp_nil (by omega)) (by exact u3) (by rw [hz9]; rfl) (by exact zPp_0) (by first | assumption | omega) (by first | assumption | omega) (fun r32_0 r32_1 r32_2 r32_3 r32_4 r32_5 f10 f11 h12 h13 h14 h15 h16 h17 u32_0 u32_1 => ?_)
        have j_37 : ∀ n_37 : Nat, ∀ (l1_37 : Int32) (v_pairs_37 : Int32) (v_pairA_37 : Nat → Int32) (v_pairB_37 : Nat → Int32) (v_pairFrom_37 : Nat → Int32) (v_pairSign_37 : Nat → Int32) (v_isPair_37 : Nat → Bool), 0 ≤ l1_37.toInt → l1_37.toInt ≤ v_pairs_37.toInt → r32_0.toInt ≤ v_pairs_37.toInt → v_pairs_37.toInt ≤ 3800 → rp (fun k v => 0 ≤ v ∧ v ≤ 59) v_pairA_37 0 0 → rp (fun k v => 0 ≤ v ∧ v ≤ 59) v_pairA_37 0 l1_37.toInt → rp (fun k v => 0 ≤ v ∧ v ≤ 59) v_pairA_37 l1_37.toInt 0 → rp (fun k v => 0 ≤ v ∧ v ≤ 59) v_pairA_37 l1_37.toInt l1_37.toInt → rp (fun k v => 0 ≤ v ∧ v ≤ 59) v_pairA_37 0 r32_0.toInt → rp (fun k v => 0 ≤ v ∧ v ≤ 59) v_pairA_37 0 v_pairs_37.toInt → rp (fun k v => 0 ≤ v ∧ v ≤ 59) v_pairA_37 l1_37.toInt r32_0.toInt → rp (fun k v => 0 ≤ v ∧ v ≤ 59) v_pairA_37 l1_37.toInt v_pairs_37.toInt → rp (fun k v => 0 ≤ v ∧ v ≤ 59) v_pairB_37 0 0 → rp (fun k v => 0 ≤ v ∧ v ≤ 59) v_pairB_37 0 l1_37.toInt → rp (fun k v => 0 ≤ v ∧ v ≤ 59) v_pairB_37 l1_37.toInt 0 → rp (fun k v => 0 ≤ v ∧ v ≤ 59) v_pairB_37 l1_37.toInt l1_37.toInt → rp (fun k v => 0 ≤ v ∧ v ≤ 59) v_pairB_37 0 r32_0.toInt → rp (fun k v => 0 ≤ v ∧ v ≤ 59) v_pairB_37 0 v_pairs_37.toInt → rp (fun k v => 0 ≤ v ∧ v ≤ 59) v_pairB_37 l1_37.toInt r32_0.toInt → rp (fun k v => 0 ≤ v ∧ v ≤ 59) v_pairB_37 l1_37.toInt v_pairs_37.toInt → rp (fun k v => v < k ∧ -1 ≤ v) v_pairFrom_37 0 0 → rp (fun k v => v < k ∧ -1 ≤ v) v_pairFrom_37 0 l1_37.toInt → rp (fun k v => v < k ∧ -1 ≤ v) v_pairFrom_37 l1_37.toInt 0 → rp (fun k v => v < k ∧ -1 ≤ v) v_pairFrom_37 l1_37.toInt l1_37.toInt → rp (fun k v => v < k ∧ -1 ≤ v) v_pairFrom_37 0 r32_0.toInt → rp (fun k v => v < k ∧ -1 ≤ v) v_pairFrom_37 0 v_pairs_37.toInt → rp (fun k v => v < k ∧ -1 ≤ v) v_pairFrom_37 l1_37.toInt r32_0.toInt → rp (fun k v => v < k ∧ -1 ≤ v) v_pairFrom_37 l1_37.toInt v_pairs_37.toInt → (v_pairs_37.toInt = zcB v_isPair_37 gP9) → (zPp v_pairA_37 v_pairB_37 (zg v_states 0) (zg v_states 1) v_pairs_37.toInt) → ((-1) * l1_37.toInt + 30500).toNat < n_37 → w_X12_findPairs_37 v_sorts v_leads v_sortA v_sortB v_sortSign Q n_37 l1_37 v_pairs_37 v_pairA_37 v_pairB_37 v_pairFrom_37 v_pairSign_37 v_isPair_37 := by
          intro n_37
          induction n_37 with
          | zero =>
            intro l1_37 v_pairs_37 v_pairA_37 v_pairB_37 v_pairFrom_37 v_pairSign_37 v_isPair_37 f18 f19 f20 f21 h22 h23 h24 h25 h26 h27 h28 h29 h30 h31 h32 h33 h34 h35 h36 h37 h38 h39 h40 h41 h42 h43 h44 h45 u37_0 u37_1 hm_37
            exfalso; omega
          | succ n_37 ih_37 =>
            intro l1_37 v_pairs_37 v_pairA_37 v_pairB_37 v_pairFrom_37 v_pairSign_37 v_isPair_37 f18 f19 f20 f21 h22 h23 h24 h25 h26 h27 h28 h29 h30 h31 h32 h33 h34 h35 h36 h37 h38 h39 h40 h41 h42 h43 h44 h45 u37_0 u37_1 hm_37
            unfold w_X12_findPairs_37
            unfold w_X12_findPairs_37B
            refine ⟨fun c42 => ?_, fun c42 => ?_⟩
            · have f46 : v_pairs_37.toInt ≤ l1_37.toInt := i_le (a := v_pairs_37.toInt) (b := l1_37.toInt) rfl rfl c42
              exact hq v_pairs_37 v_pairA_37 v_pairB_37 v_pairFrom_37 v_pairSign_37 v_isPair_37 (by omega) (by omega) (by omega) (by omega) (by omega) (by omega) (rp_mono h27 (by omega) (by omega)) (rp_mono h27 (by omega) (by omega)) (rp_mono h35 (by omega) (by omega)) (rp_mono h35 (by omega) (by omega)) (rp_mono h43 (by omega) (by omega)) (rp_mono h43 (by omega) (by omega)) (by assumption)
            · have f47 : l1_37.toInt < v_pairs_37.toInt := i_nle (a := v_pairs_37.toInt) (b := l1_37.toInt) rfl rfl c42
              have j_47 : ∀ n_47 : Nat, ∀ (l2_47 : Int32) (v_pairs_47 : Int32) (v_pairA_47 : Nat → Int32) (v_pairB_47 : Nat → Int32) (v_pairFrom_47 : Nat → Int32) (v_pairSign_47 : Nat → Int32) (v_isPair_47 : Nat → Bool), 0 ≤ l2_47.toInt → l2_47.toInt ≤ v_sorts.toInt → v_pairs_37.toInt ≤ v_pairs_47.toInt → v_pairs_47.toInt ≤ 3800 → rp (fun k v => 0 ≤ v ∧ v ≤ 59) v_pairA_47 0 0 → rp (fun k v => 0 ≤ v ∧ v ≤ 59) v_pairA_47 l2_47.toInt 0 → rp (fun k v => 0 ≤ v ∧ v ≤ 59) v_pairA_47 l2_47.toInt l2_47.toInt → rp (fun k v => 0 ≤ v ∧ v ≤ 59) v_pairA_47 0 l1_37.toInt → rp (fun k v => 0 ≤ v ∧ v ≤ 59) v_pairA_47 l2_47.toInt l1_37.toInt → rp (fun k v => 0 ≤ v ∧ v ≤ 59) v_pairA_47 l1_37.toInt 0 → rp (fun k v => 0 ≤ v ∧ v ≤ 59) v_pairA_47 l1_37.toInt l1_37.toInt → rp (fun k v => 0 ≤ v ∧ v ≤ 59) v_pairA_47 0 r32_0.toInt → rp (fun k v => 0 ≤ v ∧ v ≤ 59) v_pairA_47 l2_47.toInt r32_0.toInt → rp (fun k v => 0 ≤ v ∧ v ≤ 59) v_pairA_47 0 v_pairs_37.toInt → rp (fun k v => 0 ≤ v ∧ v ≤ 59) v_pairA_47 0 v_pairs_47.toInt → rp (fun k v => 0 ≤ v ∧ v ≤ 59) v_pairA_47 l2_47.toInt v_pairs_37.toInt → rp (fun k v => 0 ≤ v ∧ v ≤ 59) v_pairA_47 l2_47.toInt v_pairs_47.toInt → rp (fun k v => 0 ≤ v ∧ v ≤ 59) v_pairA_47 l1_37.toInt r32_0.toInt → rp (fun k v => 0 ≤ v ∧ v ≤ 59) v_pairA_47 l1_37.toInt v_pairs_37.toInt → rp (fun k v => 0 ≤ v ∧ v ≤ 59) v_pairA_47 l1_37.toInt v_pairs_47.toInt → rp (fun k v => 0 ≤ v ∧ v ≤ 59) v_pairB_47 0 0 → rp (fun k v => 0 ≤ v ∧ v ≤ 59) v_pairB_47 l2_47.toInt 0 → rp (fun k v => 0 ≤ v ∧ v ≤ 59) v_pairB_47 l2_47.toInt l2_47.toInt → rp (fun k v => 0 ≤ v ∧ v ≤ 59) v_pairB_47 0 l1_37.toInt → rp (fun k v => 0 ≤ v ∧ v ≤ 59) v_pairB_47 l2_47.toInt l1_37.toInt → rp (fun k v => 0 ≤ v ∧ v ≤ 59) v_pairB_47 l1_37.toInt 0 → rp (fun k v => 0 ≤ v ∧ v ≤ 59) v_pairB_47 l1_37.toInt l1_37.toInt → rp (fun k v => 0 ≤ v ∧ v ≤ 59) v_pairB_47 0 r32_0.toInt → rp (fun k v => 0 ≤ v ∧ v ≤ 59) v_pairB_47 l2_47.toInt r32_0.toInt → rp (fun k v => 0 ≤ v ∧ v ≤ 59) v_pairB_47 0 v_pairs_37.toInt → rp (fun k v => 0 ≤ v ∧ v ≤ 59) v_pairB_47 0 v_pairs_47.toInt → rp (fun k v => 0 ≤ v ∧ v ≤ 59) v_pairB_47 l2_47.toInt v_pairs_37.toInt → rp (fun k v => 0 ≤ v ∧ v ≤ 59) v_pairB_47 l2_47.toInt v_pairs_47.toInt → rp (fun k v => 0 ≤ v ∧ v ≤ 59) v_pairB_47 l1_37.toInt r32_0.toInt → rp (fun k v => 0 ≤ v ∧ v ≤ 59) v_pairB_47 l1_37.toInt v_pairs_37.toInt → rp (fun k v => 0 ≤ v ∧ v ≤ 59) v_pairB_47 l1_37.toInt v_pairs_47.toInt → rp (fun k v => v < k ∧ -1 ≤ v) v_pairFrom_47 0 0 → rp (fun k v => v < k ∧ -1 ≤ v) v_pairFrom_47 l2_47.toInt 0 → rp (fun k v => v < k ∧ -1 ≤ v) v_pairFrom_47 l2_47.toInt l2_47.toInt → rp (fun k v => v < k ∧ -1 ≤ v) v_pairFrom_47 0 l1_37.toInt → rp (fun k v => v < k ∧ -1 ≤ v) v_pairFrom_47 l2_47.toInt l1_37.toInt → rp (fun k v => v < k ∧ -1 ≤ v) v_pairFrom_47 l1_37.toInt 0 → rp (fun k v => v < k ∧ -1 ≤ v) v_pairFrom_47 l1_37.toInt l1_37.toInt → rp (fun k v => v < k ∧ -1 ≤ v) v_pairFrom_47 0 r32_0.toInt → rp (fun k v => v < k ∧ -1 ≤ v) v_pairFrom_47 l2_47.toInt r32_0.toInt → rp (fun k v => v < k ∧ -1 ≤ v) v_pairFrom_47 0 v_pairs_37.toInt → rp (fun k v => v < k ∧ -1 ≤ v) v_pairFrom_47 0 v_pairs_47.toInt → rp (fun k v => v < k ∧ -1 ≤ v) v_pairFrom_47 l2_47.toInt v_pairs_37.toInt → rp (fun k v => v < k ∧ -1 ≤ v) v_pairFrom_47 l2_47.toInt v_pairs_47.toInt → rp (fun k v => v < k ∧ -1 ≤ v) v_pairFrom_47 l1_37.toInt r32_0.toInt → rp (fun k v => v < k ∧ -1 ≤ v) v_pairFrom_47 l1_37.toInt v_pairs_37.toInt → rp (fun k v => v < k ∧ -1 ≤ v) v_pairFrom_47 l1_37.toInt v_pairs_47.toInt → (v_pairs_47.toInt = zcB v_isPair_47 gP9) → (zPp v_pairA_47 v_pairB_47 (zg v_states 0) (zg v_states 1) v_pairs_47.toInt) → ((-1) * l2_47.toInt + 500).toNat < n_47 → w_X12_findPairs_47 v_sorts v_leads v_sortA v_sortB v_sortSign Q (w_X12_findPairs_37 v_sorts v_leads v_sortA v_sortB v_sortSign Q n_37) l1_37 n_47 l2_47 v_pairs_47 v_pairA_47 v_pairB_47 v_pairFrom_47 v_pairSign_47 v_isPair_47 := by
                intro n_47
                induction n_47 with
                | zero =>
                  intro l2_47 v_pairs_47 v_pairA_47 v_pairB_47 v_pairFrom_47 v_pairSign_47 v_isPair_47 f48 f49 f50 f51 h52 h53 h54 h55 h56 h57 h58 h59 h60 h61 h62 h63 h64 h65 h66 h67 h68 h69 h70 h71 h72 h73 h74 h75 h76 h77 h78 h79 h80 h81 h82 h83 h84 h85 h86 h87 h88 h89 h90 h91 h92 h93 h94 h95 h96 h97 h98 h99 u47_0 u47_1 hm_47
                  exfalso; omega
                | succ n_47 ih_47 =>
                  intro l2_47 v_pairs_47 v_pairA_47 v_pairB_47 v_pairFrom_47 v_pairSign_47 v_isPair_47 f48 f49 f50 f51 h52 h53 h54 h55 h56 h57 h58 h59 h60 h61 h62 h63 h64 h65 h66 h67 h68 h69 h70 h71 h72 h73 h74 h75 h76 h77 h78 h79 h80 h81 h82 h83 h84 h85 h86 h87 h88 h89 h90 h91 h92 h93 h94 h95 h96 h97 h98 h99 u47_0 u47_1 hm_47
                  unfold w_X12_findPairs_47
                  unfold w_X12_findPairs_47B
                  refine ⟨fun c52 => ?_, fun c52 => ?_⟩
                  · have f100 : v_sorts.toInt ≤ l2_47.toInt := i_le (a := v_sorts.toInt) (b := l2_47.toInt) rfl rfl c52
                    intro x120 ex120
                    have f101 : x120.toInt = l1_37.toInt + 1 := i_add (a := l1_37.toInt) (b := 1) ex120 rfl rfl (by omega) (by omega)
                    exact ih_37 x120 v_pairs_47 v_pairA_47 v_pairB_47 v_pairFrom_47 v_pairSign_47 v_isPair_47  (by omega) (by omega) (by omega) (by omega) (rp_mono h62 (by omega) (by omega)) (rp_mono h62 (by omega) (by omega)) (rp_mono h67 (by omega) (by omega)) (rp_mono h67 (by omega) (by omega)) (rp_mono h62 (by omega) (by omega)) (rp_mono h62 (by omega) (by omega)) (rp_mono h67 (by omega) (by omega)) (rp_mono h67 (by omega) (by omega)) (rp_mono h78 (by omega) (by omega)) (rp_mono h78 (by omega) (by omega)) (rp_mono h83 (by omega) (by omega)) (rp_mono h83 (by omega) (by omega)) (rp_mono h78 (by omega) (by omega)) (rp_mono h78 (by omega) (by omega)) (rp_mono h83 (by omega) (by omega)) (rp_mono h83 (by omega) (by omega)) (rp_mono h94 (by omega) (by omega)) (rp_mono h94 (by omega) (by omega)) (rp_mono h99 (by omega) (by omega)) (rp_mono h99 (by omega) (by omega)) (rp_mono h94 (by omega) (by omega)) (rp_mono h94 (by omega) (by omega)) (rp_mono h99 (by omega) (by omega)) (rp_mono h99 (by omega) (by omega)) (by assumption) (by assumption) (by have h8_0 := i_rng l1_37; have h8_1 := i_rng x120; omega)
                  · have f102 : l2_47.toInt < v_sorts.toInt := i_nle (a := v_sorts.toInt) (b := l2_47.toInt) rfl rfl c52
                    refine ⟨i_in (by omega) (by omega), ?_⟩
                    intro x68 ex68
                    have f103 : 0 ≤ x68.toInt ∧ x68.toInt ≤ 59 := by have h9 := rp_get (P := (fun k v => 0 ≤ v ∧ v ≤ 59)) (a := l1_37.toInt) h61 ex68 rfl (by omega) (by omega) (by omega); omega
                    have f104 : x68.toInt + 1 ≤ (zg v_states 0 : Int) := (zPp_a u47_1 ex68 (by omega) (by omega)).2
                    intro x69 ex69
                    have f105 : x69.toInt = 500 * x68.toInt := i_mul (a := 500) (b := x68.toInt) ex69 rfl rfl (by omega) (by omega)
                    refine ⟨i_in (by omega) (by omega), ?_⟩
                    intro x75 ex75
                    have f106 : (0 ≤ x75.toInt ∧ x75.toInt + 1 ≤ (zg v_classes 0 : Int)) := zSo_a u2 ex75 (by omega) (by omega)
                    intro x76 ex76
                    have f107 : x76.toInt = x69.toInt + x75.toInt := i_add (a := x69.toInt) (b := x75.toInt) ex76 rfl rfl (by omega) (by omega)
                    refine ⟨i_in (by omega) (by omega), ?_⟩
                    intro x77 ex77
                    have f108 : (0 ≤ x77.toInt ∧ x77.toInt + 1 ≤ (zg v_states 0 : Int)) := zTb_l (q := x68.toInt) (c := x75.toInt) u0 ex77 (by omega) (by omega) (by omega) (by omega) (by omega)
                    refine ⟨i_in (by omega) (by omega), ?_⟩
                    intro x93 ex93
                    have f109 : 0 ≤ x93.toInt ∧ x93.toInt ≤ 59 := by have h9 := rp_get (P := (fun k v => 0 ≤ v ∧ v ≤ 59)) (a := l1_37.toInt) h77 ex93 rfl (by omega) (by omega) (by omega); omega
                    have f110 : x93.toInt + 1 ≤ (zg v_states 1 : Int) := (zPp_b u47_1 ex93 (by omega) (by omega)).2
                    intro x94 ex94
                    have f111 : x94.toInt = 500 * x93.toInt := i_mul (a := 500) (b := x93.toInt) ex94 rfl rfl (by omega) (by omega)
                    intro x95 ex95
                    have f112 : x95.toInt = 30500 + x94.toInt := i_add (a := 30500) (b := x94.toInt) ex95 rfl rfl (by omega) (by omega)
                    refine ⟨i_in (by omega) (by omega), ?_⟩
                    intro x101 ex101
                    have f113 : (0 ≤ x101.toInt ∧ x101.toInt + 1 ≤ (zg v_classes 1 : Int)) := zSo_b u2 ex101 (by omega) (by omega)
                    intro x102 ex102
                    have f114 : x102.toInt = x95.toInt + x101.toInt := i_add (a := x95.toInt) (b := x101.toInt) ex102 rfl rfl (by omega) (by omega)
                    refine ⟨i_in (by omega) (by omega), ?_⟩
                    intro x103 ex103
                    have f115 : (0 ≤ x103.toInt ∧ x103.toInt + 1 ≤ (zg v_states 1 : Int)) := zTb_l (q := x93.toInt) (c := x101.toInt) u1 ex103 (by omega) (by omega) (by omega) (by omega) (by omega)
                    refine ⟨i_in (by omega) (by omega), ?_⟩
                    intro x110 ex110
                    refine ok_X12_meet (gP9 := gP9) (gs0 := (zg v_states 0)) (gs1 := (zg v_states 1)) (by omega) (by omega) (by omega) (by omega) (by omega) (by omega) (by omega) (by omega) (rp_mono h62 (by omega) (by omega)) (rp_mono h78 (by omega) (by omega)) (rp_mono h94 (by omega) (by omega)) (by exact u3) (by first | assumption | omega) (by first | assumption | omega) (by first | assumption | omega) (by first | assumption | omega) (fun r111_0 r111_1 r111_2 r111_3 r111_4 r111_5 f116 f117 h118 h119 h120 h121 h122 h123 u111_0 u111_1 => ?_)
                    intro x114 ex114
                    have f124 : x114.toInt = l2_47.toInt + 1 := i_add (a := l2_47.toInt) (b := 1) ex114 rfl rfl (by omega) (by omega)
                    exact ih_47 x114 r111_0 r111_1 r111_2 r111_3 r111_4 r111_5  (by omega) (by omega) (by omega) (by omega) (rp_mono h119 (by omega) (by omega)) (rp_mono h119 (by omega) (by omega)) (rp_nil (by omega)) (rp_mono h119 (by omega) (by omega)) (rp_mono h119 (by omega) (by omega)) (rp_mono h119 (by omega) (by omega)) (rp_mono h119 (by omega) (by omega)) (rp_mono h119 (by omega) (by omega)) (rp_mono h119 (by omega) (by omega)) (rp_mono h119 (by omega) (by omega)) (rp_mono h119 (by omega) (by omega)) (rp_mono h119 (by omega) (by omega)) (rp_mono h119 (by omega) (by omega)) (rp_mono h119 (by omega) (by omega)) (rp_mono h119 (by omega) (by omega)) (rp_mono h119 (by omega) (by omega)) (rp_mono h121 (by omega) (by omega)) (rp_mono h121 (by omega) (by omega)) (rp_nil (by omega)) (rp_mono h121 (by omega) (by omega)) (rp_mono h121 (by omega) (by omega)) (rp_mono h121 (by omega) (by omega)) (rp_mono h121 (by omega) (by omega)) (rp_mono h121 (by omega) (by omega)) (rp_mono h121 (by omega) (by omega)) (rp_mono h121 (by omega) (by omega)) (rp_mono h121 (by omega) (by omega)) (rp_mono h121 (by omega) (by omega)) (rp_mono h121 (by omega) (by omega)) (rp_mono h121 (by omega) (by omega)) (rp_mono h121 (by omega) (by omega)) (rp_mono h121 (by omega) (by omega)) (rp_mono h123 (by omega) (by omega)) (rp_mono h123 (by omega) (by omega)) (rp_nil (by omega)) (rp_mono h123 (by omega) (by omega)) (rp_mono h123 (by omega) (by omega)) (rp_mono h123 (by omega) (by omega)) (rp_mono h123 (by omega) (by omega)) (rp_mono h123 (by omega) (by omega)) (rp_mono h123 (by omega) (by omega)) (rp_mono h123 (by omega) (by omega)) (rp_mono h123 (by omega) (by omega)) (rp_mono h123 (by omega) (by omega)) (rp_mono h123 (by omega) (by omega)) (rp_mono h123 (by omega) (by omega)) (rp_mono h123 (by omega) (by omega)) (rp_mono h123 (by omega) (by omega)) (by assumption) (by assumption) (by have h8_0 := i_rng l2_47; have h8_1 := i_rng x114; omega)
              exact ⟨(500 : Int).toNat + 1, j_47   ((500 : Int).toNat + 1) 0 v_pairs_37 v_pairA_37 v_pairB_37 v_pairFrom_37 v_pairSign_37 v_isPair_37  (by omega) (by omega) (by omega) (by omega) (rp_mono h27 (by omega) (by omega)) (rp_mono h27 (by omega) (by omega)) (rp_mono h27 (by omega) (by omega)) (rp_mono h27 (by omega) (by omega)) (rp_mono h27 (by omega) (by omega)) (rp_mono h29 (by omega) (by omega)) (rp_mono h29 (by omega) (by omega)) (rp_mono h27 (by omega) (by omega)) (rp_mono h27 (by omega) (by omega)) (rp_mono h27 (by omega) (by omega)) (rp_mono h27 (by omega) (by omega)) (rp_mono h27 (by omega) (by omega)) (rp_mono h27 (by omega) (by omega)) (rp_mono h29 (by omega) (by omega)) (rp_mono h29 (by omega) (by omega)) (rp_mono h29 (by omega) (by omega)) (rp_mono h35 (by omega) (by omega)) (rp_mono h35 (by omega) (by omega)) (rp_mono h35 (by omega) (by omega)) (rp_mono h35 (by omega) (by omega)) (rp_mono h35 (by omega) (by omega)) (rp_mono h37 (by omega) (by omega)) (rp_mono h37 (by omega) (by omega)) (rp_mono h35 (by omega) (by omega)) (rp_mono h35 (by omega) (by omega)) (rp_mono h35 (by omega) (by omega)) (rp_mono h35 (by omega) (by omega)) (rp_mono h35 (by omega) (by omega)) (rp_mono h35 (by omega) (by omega)) (rp_mono h37 (by omega) (by omega)) (rp_mono h37 (by omega) (by omega)) (rp_mono h37 (by omega) (by omega)) (rp_mono h43 (by omega) (by omega)) (rp_mono h43 (by omega) (by omega)) (rp_mono h43 (by omega) (by omega)) (rp_mono h43 (by omega) (by omega)) (rp_mono h43 (by omega) (by omega)) (rp_mono h45 (by omega) (by omega)) (rp_mono h45 (by omega) (by omega)) (rp_mono h43 (by omega) (by omega)) (rp_mono h43 (by omega) (by omega)) (rp_mono h43 (by omega) (by omega)) (rp_mono h43 (by omega) (by omega)) (rp_mono h43 (by omega) (by omega)) (rp_mono h43 (by omega) (by omega)) (rp_mono h45 (by omega) (by omega)) (rp_mono h45 (by omega) (by omega)) (rp_mono h45 (by omega) (by omega)) (by assumption) (by assumption) (by omega)⟩
        exact ⟨(30500 : Int).toNat + 1, j_37   ((30500 : Int).toNat + 1) 0 r32_0 r32_1 r32_2 r32_3 r32_4 r32_5  (by omega) (by omega) (by omega) (by omega) (rp_mono h13 (by omega) (by omega)) (rp_mono h13 (by omega) (by omega)) (rp_mono h13 (by omega) (by omega)) (rp_mono h13 (by omega) (by omega)) (rp_mono h13 (by omega) (by omega)) (rp_mono h13 (by omega) (by omega)) (rp_mono h13 (by omega) (by omega)) (rp_mono h13 (by omega) (by omega)) (rp_mono h15 (by omega) (by omega)) (rp_mono h15 (by omega) (by omega)) (rp_mono h15 (by omega) (by omega)) (rp_mono h15 (by omega) (by omega)) (rp_mono h15 (by omega) (by omega)) (rp_mono h15 (by omega) (by omega)) (rp_mono h15 (by omega) (by omega)) (rp_mono h15 (by omega) (by omega)) (rp_mono h17 (by omega) (by omega)) (rp_mono h17 (by omega) (by omega)) (rp_mono h17 (by omega) (by omega)) (rp_mono h17 (by omega) (by omega)) (rp_mono h17 (by omega) (by omega)) (rp_mono h17 (by omega) (by omega)) (rp_mono h17 (by omega) (by omega)) (rp_mono h17 (by omega) (by omega)) (by assumption) (by assumption) (by omega)⟩
      · have f125 : l1_2.toInt < 3800 := i_nle (a := 3800) (b := l1_2.toInt) rfl rfl c6
        refine ⟨i_in (by omega) (by omega), ?_⟩
        intro g15 eg15
        intro x16 ex16
        have f126 : x16.toInt = l1_2.toInt + 1 := i_add (a := l1_2.toInt) (b := 1) ex16 rfl rfl (by omega) (by omega)
        exact ih_2 x16 g15  (by omega) (by omega) (by first | exact zOff_s u2_0 eg15 (by decide) (by omega) (by omega) | exact zOff_0) (by have h8_0 := i_rng l1_2; have h8_1 := i_rng x16; omega)
  exact ⟨(3800 : Int).toNat + 1, j_2   ((3800 : Int).toNat + 1) 0 v_isPair  (by omega) (by omega) (by first | exact zOff_s u2_0 eg15 (by decide) (by omega) (by omega) | exact zOff_0) (by omega)⟩

set_option maxHeartbeats 4000000 in
theorem ok_X12_reach {p1 : Int32} {v_acts : Int32} {v_reached : Int64} {v_reachesEnd : Bool} {v_act : Nat → Int32} {v_actA : Nat → Int32} {v_labelAt : Nat → Int32} {v_eaterOf : Nat → Int32} {v_isGone : Nat → Bool} {v_walk : Nat → Int32} {Q : Int64 → Bool → (Nat → Bool) → (Nat → Int32) → Prop} (a0 : 0 ≤ v_acts.toInt) (a1 : v_acts.toInt ≤ 3000) (a2 : 0 ≤ p1.toInt) (a3 : p1.toInt + 1 ≤ v_acts.toInt) (u0 : zPg v_act v_actA v_labelAt v_acts.toInt) (hq : ∀ (ov_reached : Int64) (ov_reachesEnd : Bool) (ov_isGone : Nat → Bool) (ov_walk : Nat → Int32), Q ov_reached ov_reachesEnd ov_isGone ov_walk) : w_X12_reach p1 v_acts v_reached v_reachesEnd v_act v_actA v_labelAt v_eaterOf v_isGone v_walk Q := by
  have q_t : (bz true).toInt = 1 := rfl
  have q_f : (bz false).toInt = 0 := rfl
  have q_0 : (0 : Int32).toInt = 0 := rfl
  have q_1 : (1 : Int32).toInt = 1 := rfl
  unfold w_X12_reach
  have j_2 : ∀ n_2 : Nat, ∀ (l2_2 : Int32) (v_isGone_2 : Nat → Bool), l2_2.toInt ≤ v_acts.toInt → 0 ≤ l2_2.toInt → (zOff v_isGone_2 l2_2.toInt) → ((-1) * l2_2.toInt + 2147483648).toNat < n_2 → w_X12_reach_2 p1 v_acts v_act v_actA v_labelAt v_eaterOf Q v_reached v_reachesEnd v_walk n_2 l2_2 v_isGone_2 := by
    intro n_2
    induction n_2 with
    | zero =>
      intro l2_2 v_isGone_2 f1 f2 u2_0 hm_2
      exfalso; omega
    | succ n_2 ih_2 =>
      intro l2_2 v_isGone_2 f1 f2 u2_0 hm_2
      unfold w_X12_reach_2
      unfold w_X12_reach_2B
      refine ⟨fun c7 => ?_, fun c7 => ?_⟩
      · have f3 : v_acts.toInt ≤ l2_2.toInt := i_le (a := v_acts.toInt) (b := l2_2.toInt) rfl rfl c7
        have hof : zOff v_isGone_2 v_acts.toInt := fun j j0 j1 => u2_0 j j0 (by omega)
        intro g41 eg41
        have j_42 : ∀ n_42 : Nat, ∀ (l2_42 : Int32) (v_reached_42 : Int64) (v_reachesEnd_42 : Bool) (v_isGone_42 : Nat → Bool) (v_walk_42 : Nat → Int32) (gm_42 : Int), 0 ≤ l2_42.toInt → (zRe v_isGone_42 v_walk_42 v_acts.toInt l2_42.toInt gm_42) → (gm_42).toNat < n_42 → w_X12_reach_42 v_act v_actA v_labelAt v_eaterOf Q n_42 l2_42 v_reached_42 v_reachesEnd_42 v_isGone_42 v_walk_42 := by
          intro n_42
          induction n_42 with
          | zero =>
            intro l2_42 v_reached_42 v_reachesEnd_42 v_isGone_42 v_walk_42 gm_42 f4 u42_0 hm_42
            exfalso; omega
          | succ n_42 ih_42 =>
            intro l2_42 v_reached_42 v_reachesEnd_42 v_isGone_42 v_walk_42 gm_42 f4 u42_0 hm_42
            unfold w_X12_reach_42
            unfold w_X12_reach_42B
            refine ⟨fun c43 => ?_, fun c43 => ?_⟩
            · have f5 : l2_42.toInt ≤ 0 := i_le (a := l2_42.toInt) (b := 0) rfl rfl c43
              exact hq v_reached_42 v_reachesEnd_42 v_isGone_42 v_walk_42 
            · have f6 : 0 < l2_42.toInt := i_nle (a := l2_42.toInt) (b := 0) rfl rfl c43
              have hc9 := zcB_ub (f := v_isGone_42) (n := v_acts.toInt) (by omega)
              have hb9 := u42_0.2.2.1
              have hd9 := u42_0.2.2.2
              have f7 : l2_42.toInt ≤ 3001 := by omega
              intro x46 ex46
              have f8 : x46.toInt = l2_42.toInt + (-1) := i_add (a := l2_42.toInt) (b := (-1)) ex46 rfl rfl (by omega) (by omega)
              refine ⟨i_in (by omega) (by omega), ?_⟩
              intro x54 ex54
              have f9 : (0 ≤ x54.toInt ∧ x54.toInt + 1 ≤ v_acts.toInt) := by rw [zg_at ex54]; exact u42_0.1 _ (by omega) (by omega)
              refine ⟨i_in (by omega) (by omega), ?_⟩
              intro x61 ex61
              have f10 : (0 ≤ x61.toInt ∧ x61.toInt ≤ 1) := i_bz ex61
              have j_192 : ∀ (l2_192 : Int32) (v_reached_192 : Int64) (v_reachesEnd_192 : Bool) (v_isGone_192 : Nat → Bool) (v_walk_192 : Nat → Int32), l2_42.toInt ≤ l2_192.toInt + 1 → l2_192.toInt ≤ l2_42.toInt + 1 → (zRe v_isGone_192 v_walk_192 v_acts.toInt l2_192.toInt (gm_42 - 1)) → w_X12_reach_192 Q (w_X12_reach_42 v_act v_actA v_labelAt v_eaterOf Q n_42) l2_192 v_reached_192 v_reachesEnd_192 v_isGone_192 v_walk_192 := by
                intro l2_192 v_reached_192 v_reachesEnd_192 v_isGone_192 v_walk_192 f11 f12 u192_0
                unfold w_X12_reach_192
                exact ih_42 l2_192 v_reached_192 v_reachesEnd_192 v_isGone_192 v_walk_192 (gm_42 - 1) (by omega) (by first | assumption | exact zRe_0 eg41 (by omega) hof (by omega)) (by omega)
              refine ⟨fun c62 => ?_, fun c62 => ?_⟩
              · have f13 : x61.toInt ≠ 0 := i_ne (a := x61.toInt) (b := 0) rfl rfl c62
                exact j_192 x46 v_reached_42 v_reachesEnd_42 v_isGone_42 v_walk_42 (by omega) (by omega) (by first | exact zRe_new u42_0 ex61 (by omega) eg71 (by decide) (by omega) (by omega) (zWk_w u142_0 eg188 rfl (by omega) (by omega) (by omega)) (by omega) (by omega) rfl | exact zRe_new u42_0 ex61 (by omega) eg71 (by decide) (by omega) (by omega) u142_0 (by omega) (by omega) rfl | exact zRe_new u42_0 ex61 (by omega) eg71 (by decide) (by omega) (by omega) (zWk_m u42_0.1 (by omega)) (by omega) (by omega) rfl | exact zRe_gone u42_0 (by omega) (by omega) rfl)
              · have f14 : x61.toInt = 0 := i_eq (a := x61.toInt) (b := 0) rfl rfl c62
                refine ⟨i_in (by omega) (by omega), ?_⟩
                intro g71 eg71
                refine ⟨i_in (by omega) (by omega), ?_⟩
                intro x77 ex77
                refine ⟨fun c78 => ?_, fun c78 => ?_⟩
                · have f15 : x77.toInt ≠ 0 := i_ne (a := x77.toInt) (b := 0) rfl rfl c78
                  refine ⟨i_in (by omega) (by omega), ?_⟩
                  intro x106 ex106
                  have f16 : x106.toInt = x77.toInt := congrArg Int32.toInt (ex106.trans ex77.symm)
                  refine ⟨fun c109 => ?_, fun c109 => ?_⟩
                  · have f17 : x106.toInt ≠ 19 := i_ne (a := x106.toInt) (b := 19) rfl rfl c109
                    refine ⟨i_in (by omega) (by omega), ?_⟩
                    intro x125 ex125
                    have f18 : x125.toInt = x77.toInt := congrArg Int32.toInt (ex125.trans ex77.symm)
                    have j_142 : ∀ (l2_142 : Int32) (v_walk_142 : Nat → Int32), l2_42.toInt ≤ l2_142.toInt + 1 → l2_142.toInt ≤ l2_42.toInt → ((l2_142.toInt = x46.toInt ∧ x125.toInt = 5) ∨ (l2_142.toInt = x46.toInt + 1)) → (zWk v_walk_142 l2_142.toInt v_acts.toInt) → (0 ≤ l2_142.toInt ∧ l2_142.toInt ≤ l2_42.toInt) → w_X12_reach_142 v_act v_actA v_labelAt Q (w_X12_reach_42 v_act v_actA v_labelAt v_eaterOf Q n_42) l2_142 x54 v_reached_42 v_reachesEnd_42 g71 v_walk_142 := by
                      intro l2_142 v_walk_142 f19 f20 f21 u142_0 u142_1
                      unfold w_X12_reach_142
                      refine ⟨i_in (by omega) (by omega), ?_⟩
                      intro x147 ex147
                      have f22 : x147.toInt = x77.toInt := congrArg Int32.toInt (ex147.trans ex77.symm)
                      have j_172 : ((x147.toInt = 5) ∨ (x77.toInt = 3) ∨ (x77.toInt = 4)) → (3 ≤ x147.toInt ∧ x147.toInt ≤ 5) → w_X12_reach_172 v_actA v_labelAt Q (w_X12_reach_42 v_act v_actA v_labelAt v_eaterOf Q n_42) l2_142 x54 v_reached_42 v_reachesEnd_42 g71 v_walk_142 := by
                        intro f23 u172_0
                        unfold w_X12_reach_172
                        refine ⟨i_in (by omega) (by omega), ?_⟩
                        intro x186 ex186
                        have f24 : (0 ≤ x186.toInt ∧ x186.toInt ≤ 2999) := by have h9 := (zPg_l u0 ex147 ex186 (by omega) (by omega) (by omega)).1; omega
                        refine ⟨i_in (by omega) (by omega), ?_⟩
                        intro x187 ex187
                        have f25 : (0 ≤ x187.toInt ∧ x187.toInt + 1 ≤ v_acts.toInt) := by rw [zg_at ex187]; exact (zPg_l u0 ex147 ex186 (by omega) (by omega) (by omega)).2
                        refine ⟨i_in (by omega) (by omega), ?_⟩
                        intro g188 eg188
                        intro x189 ex189
                        have f26 : x189.toInt = l2_142.toInt + 1 := i_add (a := l2_142.toInt) (b := 1) ex189 rfl rfl (by omega) (by omega)
                        exact j_192 x189 v_reached_42 v_reachesEnd_42 g71 g188 (by omega) (by omega) (by first | exact zRe_new u42_0 ex61 (by omega) eg71 (by decide) (by omega) (by omega) (zWk_w u142_0 eg188 rfl (by omega) (by omega) (by omega)) (by omega) (by omega) rfl | exact zRe_new u42_0 ex61 (by omega) eg71 (by decide) (by omega) (by omega) u142_0 (by omega) (by omega) rfl | exact zRe_new u42_0 ex61 (by omega) eg71 (by decide) (by omega) (by omega) (zWk_m u42_0.1 (by omega)) (by omega) (by omega) rfl | exact zRe_gone u42_0 (by omega) (by omega) rfl)
                      refine ⟨fun c149 => ?_, fun c149 => ?_⟩
                      · have f27 : x147.toInt = 5 := i_eq (a := x147.toInt) (b := 5) rfl rfl c149
                        exact j_172  (by omega) (by omega)
                      · have f28 : x147.toInt ≠ 5 := i_ne (a := x147.toInt) (b := 5) rfl rfl c149
                        refine ⟨i_in (by omega) (by omega), ?_⟩
                        intro x157 ex157
                        have f29 : x157.toInt = x77.toInt := congrArg Int32.toInt (ex157.trans ex77.symm)
                        refine ⟨fun c159 => ?_, fun c159 => ?_⟩
                        · have f30 : x157.toInt = 3 := i_eq (a := x157.toInt) (b := 3) rfl rfl c159
                          exact j_172  (by omega) (by omega)
                        · have f31 : x157.toInt ≠ 3 := i_ne (a := x157.toInt) (b := 3) rfl rfl c159
                          refine ⟨i_in (by omega) (by omega), ?_⟩
                          intro x167 ex167
                          have f32 : x167.toInt = x77.toInt := congrArg Int32.toInt (ex167.trans ex77.symm)
                          refine ⟨fun c169 => ?_, fun c169 => ?_⟩
                          · have f33 : x167.toInt ≠ 4 := i_ne (a := x167.toInt) (b := 4) rfl rfl c169
                            exact j_192 l2_142 v_reached_42 v_reachesEnd_42 g71 v_walk_142 (by omega) (by omega) (by first | exact zRe_new u42_0 ex61 (by omega) eg71 (by decide) (by omega) (by omega) (zWk_w u142_0 eg188 rfl (by omega) (by omega) (by omega)) (by omega) (by omega) rfl | exact zRe_new u42_0 ex61 (by omega) eg71 (by decide) (by omega) (by omega) u142_0 (by omega) (by omega) rfl | exact zRe_new u42_0 ex61 (by omega) eg71 (by decide) (by omega) (by omega) (zWk_m u42_0.1 (by omega)) (by omega) (by omega) rfl | exact zRe_gone u42_0 (by omega) (by omega) rfl)
                          · have f34 : x167.toInt = 4 := i_eq (a := x167.toInt) (b := 4) rfl rfl c169
                            exact j_172  (by omega) (by omega)
                    refine ⟨fun c127 => ?_, fun c127 => ?_⟩
                    · have f35 : x125.toInt = 5 := i_eq (a := x125.toInt) (b := 5) rfl rfl c127
                      exact j_142 x46 v_walk_42 (by omega) (by omega) (by omega) (by first | exact zWk_w (zWk_m u42_0.1 (by omega)) eg138 rfl (by omega) (by omega) (by omega) | exact zWk_m u42_0.1 (by omega)) (by omega)
                    · have f36 : x125.toInt ≠ 5 := i_ne (a := x125.toInt) (b := 5) rfl rfl c127
                      have hn9 := zPg_n u0 ex106 (by omega) (by omega) (by omega)
                      intro x137 ex137
                      have f37 : x137.toInt = x54.toInt + 1 := i_add (a := x54.toInt) (b := 1) ex137 rfl rfl (by omega) (by omega)
                      refine ⟨i_in (by omega) (by omega), ?_⟩
                      intro g138 eg138
                      intro x139 ex139
                      have f38 : x139.toInt = x46.toInt + 1 := i_add (a := x46.toInt) (b := 1) ex139 rfl rfl (by omega) (by omega)
                      exact j_142 x139 g138 (by omega) (by omega) (by omega) (by first | exact zWk_w (zWk_m u42_0.1 (by omega)) eg138 rfl (by omega) (by omega) (by omega) | exact zWk_m u42_0.1 (by omega)) (by omega)
                  · have f39 : x106.toInt = 19 := i_eq (a := x106.toInt) (b := 19) rfl rfl c109
                    exact j_192 x46 v_reached_42 true g71 v_walk_42 (by omega) (by omega) (by first | exact zRe_new u42_0 ex61 (by omega) eg71 (by decide) (by omega) (by omega) (zWk_w u142_0 eg188 rfl (by omega) (by omega) (by omega)) (by omega) (by omega) rfl | exact zRe_new u42_0 ex61 (by omega) eg71 (by decide) (by omega) (by omega) u142_0 (by omega) (by omega) rfl | exact zRe_new u42_0 ex61 (by omega) eg71 (by decide) (by omega) (by omega) (zWk_m u42_0.1 (by omega)) (by omega) (by omega) rfl | exact zRe_gone u42_0 (by omega) (by omega) rfl)
                · have f40 : x77.toInt = 0 := i_eq (a := x77.toInt) (b := 0) rfl rfl c78
                  refine ⟨i_in (by omega) (by omega), ?_⟩
                  intro x92 ex92
                  intro y93 ey93
                  intro y94 ey94
                  exact j_192 x46 y94 v_reachesEnd_42 g71 v_walk_42 (by omega) (by omega) (by first | exact zRe_new u42_0 ex61 (by omega) eg71 (by decide) (by omega) (by omega) (zWk_w u142_0 eg188 rfl (by omega) (by omega) (by omega)) (by omega) (by omega) rfl | exact zRe_new u42_0 ex61 (by omega) eg71 (by decide) (by omega) (by omega) u142_0 (by omega) (by omega) rfl | exact zRe_new u42_0 ex61 (by omega) eg71 (by decide) (by omega) (by omega) (zWk_m u42_0.1 (by omega)) (by omega) (by omega) rfl | exact zRe_gone u42_0 (by omega) (by omega) rfl)
        exact ⟨((2 * v_acts.toInt + 1)).toNat + 1, j_42   (((2 * v_acts.toInt + 1)).toNat + 1) 1 0 false v_isGone_2 g41 (2 * v_acts.toInt + 1) (by omega) (by first | assumption | exact zRe_0 eg41 (by omega) hof (by omega)) (by omega)⟩
      · have f41 : l2_2.toInt < v_acts.toInt := i_nle (a := v_acts.toInt) (b := l2_2.toInt) rfl rfl c7
        refine ⟨i_in (by omega) (by omega), ?_⟩
        intro g16 eg16
        intro x17 ex17
        have f42 : x17.toInt = l2_2.toInt + 1 := i_add (a := l2_2.toInt) (b := 1) ex17 rfl rfl (by omega) (by omega)
        exact ih_2 x17 g16  (by omega) (by omega) (by first | exact zOff_s u2_0 eg16 (by decide) (by omega) (by omega) | exact zOff_0) (by have h8_0 := i_rng l2_2; have h8_1 := i_rng x17; omega)
  exact ⟨(2147483648 : Int).toNat + 1, j_2   ((2147483648 : Int).toNat + 1) 0 v_isGone  (by omega) (by omega) (by first | exact zOff_s u2_0 eg16 (by decide) (by omega) (by omega) | exact zOff_0) (by omega)⟩

set_option maxHeartbeats 4000000 in
theorem ok_X12_compileLook {p1 : Int32} {p2 : Int32} {v_labels : Int32} {v_tasks : Int32} {v_value : Nat → Int32} {v_task : Nat → Int32} {v_taskA : Nat → Int32} {v_taskB : Nat → Int32} {gZ : Int → Int} {gC : Int → zT} {gL : Int → zT} {gsi : zT} {gs0 : zT} {gta : zT} {gbs : Int} {gq9 : Int} {gn9 : Int} {gc9 : Int} {gfi : Int} {gB1 : Int} {gB2 : Int} {v_sort : Nat → Int32} {v_least : Nat → Int32} {v_most : Nat → Int32} {v_holder : Nat → Int32} {v_parts : Nat → Int32} {v_end : Nat → Int32} {v_firstPart : Nat → Int32} {v_partBegin : Nat → Int32} {v_partEnd : Nat → Int32} {v_act : Nat → Int32} {v_actA : Nat → Int32} {v_actB : Nat → Int32} {v_labelAt : Nat → Int32} {v_acts : Int32} {Q : Int32 → Int32 → (Nat → Int32) → (Nat → Int32) → (Nat → Int32) → Prop} (a0 : 0 ≤ v_tasks.toInt) (a1 : v_tasks.toInt ≤ 5900) (a2 : 0 ≤ v_labels.toInt) (a3 : v_labels.toInt ≤ 2900) (a4 : 0 ≤ p2.toInt) (a5 : p2.toInt ≤ 219) (a6 : 0 ≤ p1.toInt) (a7 : p1.toInt ≤ 1319) (u0 : zND v_sort v_value v_least v_most v_holder v_parts v_end v_firstPart v_partBegin v_partEnd v_act v_actA v_actB v_labelAt v_task v_taskA v_taskB gZ gbs gq9 gn9 gc9 gfi v_acts.toInt v_labels.toInt v_tasks.toInt gC gL gsi gs0 gta (p2.toInt) gB1 gB2) (u1 : zg v_sort (gbs + p2.toInt) = 9) (hq : ∀ (ov_labels : Int32) (ov_tasks : Int32) (ov_task : Nat → Int32) (ov_taskA : Nat → Int32) (ov_taskB : Nat → Int32), ov_labels.toInt = v_labels.toInt + 1 → ov_tasks.toInt = v_tasks.toInt + 4 → (zWp v_sort v_value v_end v_act v_actA v_actB v_labelAt ov_task ov_taskA ov_taskB gZ gbs gn9 gfi v_acts.toInt ov_labels.toInt ov_tasks.toInt gC gsi (p2.toInt) gB1 gB2) → Q ov_labels ov_tasks ov_task ov_taskA ov_taskB) : w_X12_compileLook p1 p2 v_labels v_tasks v_value v_task v_taskA v_taskB Q := by
  have q_t : (bz true).toInt = 1 := rfl
  have q_f : (bz false).toInt = 0 := rfl
  have q_m1 : ((-1) : Int32).toInt = (-1) := rfl
  have q_0 : (0 : Int32).toInt = 0 := rfl
  have q_13 : (13 : Int32).toInt = 13 := rfl
  have q_14 : (14 : Int32).toInt = 14 := rfl
  have q_15 : (15 : Int32).toInt = 15 := rfl
  have q_16 : (16 : Int32).toInt = 16 := rfl
  have q_17 : (17 : Int32).toInt = 17 := rfl
  have q_18 : (18 : Int32).toInt = 18 := rfl
  have q_20 : (20 : Int32).toInt = 20 := rfl
  have q_100 : (100 : Int32).toInt = 100 := rfl
  have q_101 : (101 : Int32).toInt = 101 := rfl
  unfold w_X12_compileLook
  refine ok_X12_newLabel (by omega) (by omega) (fun r1 r1_0 f1 f2 => ?_)
  refine ⟨i_in (by omega) (by omega), ?_⟩
  intro x10 ex10
  refine ok_X12_later (by omega) (by omega) (fun r18_0 r18_1 r18_2 r18_3 f3 u18_0 u18_1 u18_2 => ?_)
  have j_56 : ∀ (s0_56 : Int32), 12 ≤ s0_56.toInt → s0_56.toInt ≤ 20 → (s0_56.toInt = 14 ∨ s0_56.toInt = 16 ∨ s0_56.toInt = 18 ∨ s0_56.toInt = 20) → w_X12_compileLook_56 p2 Q s0_56 r1 x10 r1_0 r18_0 r18_1 r18_2 r18_3 := by
    intro s0_56 f4 f5 u56_0
    unfold w_X12_compileLook_56
    refine ok_X12_later (by omega) (by omega) (fun r58_0 r58_1 r58_2 r58_3 f6 u58_0 u58_1 u58_2 => ?_)
    intro x66 ex66
    have f7 : x66.toInt = p2.toInt + 1 := i_add (a := p2.toInt) (b := 1) ex66 rfl rfl (by omega) (by omega)
    refine ok_X12_later (by omega) (by omega) (fun r68_0 r68_1 r68_2 r68_3 f8 u68_0 u68_1 u68_2 => ?_)
    have j_95 : ∀ (s0_95 : Int32), ((s0_95.toInt = 17) ∨ (s0_95.toInt = 15 ∧ x10.toInt = 1) ∨ (s0_95.toInt = 13 ∧ x10.toInt = 0)) → (s0_95.toInt = 13 ∨ s0_95.toInt = 15 ∨ s0_95.toInt = 17) → w_X12_compileLook_95 p2 Q s0_95 r1 x10 r1_0 r68_0 r68_1 r68_2 r68_3 := by
      intro s0_95 f9 u95_0
      unfold w_X12_compileLook_95
      have j_113 : ∀ (s0_113 : Int32), ((s0_113.toInt + 1 = 0) ∨ (s0_113.toInt = r1.toInt)) → (s0_113.toInt = -1 ∨ s0_113.toInt = v_labels.toInt) → w_X12_compileLook_113 Q s0_113 p2 s0_95 r1_0 r68_0 r68_1 r68_2 r68_3 := by
        intro s0_113 f10 u113_0
        unfold w_X12_compileLook_113
        have hj9 := u113_0
        refine ok_X12_later (by omega) (by omega) (fun r113_0 r113_1 r113_2 r113_3 f11 u113_0 u113_1 u113_2 => ?_)
        exact hq r1_0 r113_0 r113_1 r113_2 r113_3 (by omega) (by omega) (by exact zN_s u0 u18_0 u18_1 u18_2 u58_0 u58_1 u58_2 u68_0 u68_1 u68_2 u113_0 u113_1 u113_2 u1 (by decide) u56_0 (by decide) u95_0 (by omega) rfl (by omega) rfl hj9 (by omega) (by omega) (by omega) (by omega) (by omega))
      have j_108 : ((x10.toInt = 3) ∨ (x10.toInt = 1)) → w_X12_compileLook_108 Q p2 s0_95 r1 r1_0 r68_0 r68_1 r68_2 r68_3 := by
        intro f12
        unfold w_X12_compileLook_108
        exact j_113 r1 (by omega) (by first | exact Or.inl rfl | exact Or.inr (by omega))
      refine ⟨fun c99 => ?_, fun c99 => ?_⟩
      · have f13 : x10.toInt = 3 := i_eq (a := x10.toInt) (b := 3) rfl rfl c99
        exact j_108  (by omega)
      · have f14 : x10.toInt ≠ 3 := i_ne (a := x10.toInt) (b := 3) rfl rfl c99
        refine ⟨fun c105 => ?_, fun c105 => ?_⟩
        · have f15 : x10.toInt ≠ 1 := i_ne (a := x10.toInt) (b := 1) rfl rfl c105
          exact j_113 (-1) (by omega) (by first | exact Or.inl rfl | exact Or.inr (by omega))
        · have f16 : x10.toInt = 1 := i_eq (a := x10.toInt) (b := 1) rfl rfl c105
          exact j_108  (by omega)
    refine ⟨fun c74 => ?_, fun c74 => ?_⟩
    · have f17 : x10.toInt ≠ 0 := i_ne (a := x10.toInt) (b := 0) rfl rfl c74
      refine ⟨fun c85 => ?_, fun c85 => ?_⟩
      · have f18 : x10.toInt ≠ 1 := i_ne (a := x10.toInt) (b := 1) rfl rfl c85
        exact j_95 17 (by omega) (by first | exact Or.inl rfl | exact Or.inr (Or.inl rfl) | exact Or.inr (Or.inr rfl))
      · have f19 : x10.toInt = 1 := i_eq (a := x10.toInt) (b := 1) rfl rfl c85
        exact j_95 15 (by omega) (by first | exact Or.inl rfl | exact Or.inr (Or.inl rfl) | exact Or.inr (Or.inr rfl))
    · have f20 : x10.toInt = 0 := i_eq (a := x10.toInt) (b := 0) rfl rfl c74
      exact j_95 13 (by omega) (by first | exact Or.inl rfl | exact Or.inr (Or.inl rfl) | exact Or.inr (Or.inr rfl))
  refine ⟨fun c24 => ?_, fun c24 => ?_⟩
  · have f21 : x10.toInt ≠ 0 := i_ne (a := x10.toInt) (b := 0) rfl rfl c24
    refine ⟨fun c35 => ?_, fun c35 => ?_⟩
    · have f22 : x10.toInt ≠ 1 := i_ne (a := x10.toInt) (b := 1) rfl rfl c35
      refine ⟨fun c46 => ?_, fun c46 => ?_⟩
      · have f23 : x10.toInt ≠ 2 := i_ne (a := x10.toInt) (b := 2) rfl rfl c46
        exact j_56 20 (by omega) (by omega) (by first | exact Or.inl rfl | exact Or.inr (Or.inl rfl) | exact Or.inr (Or.inr (Or.inl rfl)) | exact Or.inr (Or.inr (Or.inr rfl)))
      · have f24 : x10.toInt = 2 := i_eq (a := x10.toInt) (b := 2) rfl rfl c46
        exact j_56 18 (by omega) (by omega) (by first | exact Or.inl rfl | exact Or.inr (Or.inl rfl) | exact Or.inr (Or.inr (Or.inl rfl)) | exact Or.inr (Or.inr (Or.inr rfl)))
    · have f25 : x10.toInt = 1 := i_eq (a := x10.toInt) (b := 1) rfl rfl c35
      exact j_56 16 (by omega) (by omega) (by first | exact Or.inl rfl | exact Or.inr (Or.inl rfl) | exact Or.inr (Or.inr (Or.inl rfl)) | exact Or.inr (Or.inr (Or.inr rfl)))
  · have f26 : x10.toInt = 0 := i_eq (a := x10.toInt) (b := 0) rfl rfl c24
    exact j_56 14 (by omega) (by omega) (by first | exact Or.inl rfl | exact Or.inr (Or.inl rfl) | exact Or.inr (Or.inr (Or.inl rfl)) | exact Or.inr (Or.inr (Or.inr rfl)))
set_option maxHeartbeats 4000000 in
theorem ok_X12_compileLoop {p1 : Int32} {p2 : Int32} {v_labels : Int32} {v_tasks : Int32} {v_value : Nat → Int32} {v_task : Nat → Int32} {v_taskA : Nat → Int32} {v_taskB : Nat → Int32} {gZ : Int → Int} {gC : Int → zT} {gL : Int → zT} {gsi : zT} {gs0 : zT} {gta : zT} {gbs : Int} {gq9 : Int} {gn9 : Int} {gc9 : Int} {gfi : Int} {gB1 : Int} {gB2 : Int} {v_sort : Nat → Int32} {v_least : Nat → Int32} {v_most : Nat → Int32} {v_holder : Nat → Int32} {v_parts : Nat → Int32} {v_end : Nat → Int32} {v_firstPart : Nat → Int32} {v_partBegin : Nat → Int32} {v_partEnd : Nat → Int32} {v_act : Nat → Int32} {v_actA : Nat → Int32} {v_actB : Nat → Int32} {v_labelAt : Nat → Int32} {v_acts : Int32} {Q : Int32 → Int32 → (Nat → Int32) → (Nat → Int32) → (Nat → Int32) → Prop} (a0 : 0 ≤ v_tasks.toInt) (a1 : v_tasks.toInt ≤ 5900) (a2 : 0 ≤ v_labels.toInt) (a3 : v_labels.toInt ≤ 2900) (a4 : 0 ≤ p2.toInt) (a5 : p2.toInt ≤ 219) (a6 : 0 ≤ p1.toInt) (a7 : p1.toInt ≤ 1319) (u0 : zND v_sort v_value v_least v_most v_holder v_parts v_end v_firstPart v_partBegin v_partEnd v_act v_actA v_actB v_labelAt v_task v_taskA v_taskB gZ gbs gq9 gn9 gc9 gfi v_acts.toInt v_labels.toInt v_tasks.toInt gC gL gsi gs0 gta (p2.toInt) gB1 gB2) (u1 : zg v_sort (gbs + p2.toInt) = 7) (u2 : gfi = 0) (u3 : p1.toInt = gbs + p2.toInt) (hq : ∀ (ov_labels : Int32) (ov_tasks : Int32) (ov_task : Nat → Int32) (ov_taskA : Nat → Int32) (ov_taskB : Nat → Int32), ov_labels.toInt = v_labels.toInt + 2 → v_tasks.toInt ≤ ov_tasks.toInt → ov_tasks.toInt ≤ v_tasks.toInt + 8 → 6 ≤ ov_tasks.toInt → (zWp v_sort v_value v_end v_act v_actA v_actB v_labelAt ov_task ov_taskA ov_taskB gZ gbs gn9 gfi v_acts.toInt ov_labels.toInt ov_tasks.toInt gC gsi (p2.toInt) gB1 gB2) → Q ov_labels ov_tasks ov_task ov_taskA ov_taskB) : w_X12_compileLoop p1 p2 v_labels v_tasks v_value v_task v_taskA v_taskB Q := by
  have q_t : (bz true).toInt = 1 := rfl
  have q_f : (bz false).toInt = 0 := rfl
  have q_0 : (0 : Int32).toInt = 0 := rfl
  have q_1 : (1 : Int32).toInt = 1 := rfl
  have q_8 : (8 : Int32).toInt = 8 := rfl
  have q_9 : (9 : Int32).toInt = 9 := rfl
  have q_10 : (10 : Int32).toInt = 10 := rfl
  have q_11 : (11 : Int32).toInt = 11 := rfl
  have q_12 : (12 : Int32).toInt = 12 := rfl
  have q_100 : (100 : Int32).toInt = 100 := rfl
  have q_101 : (101 : Int32).toInt = 101 := rfl
  unfold w_X12_compileLoop
  refine ok_X12_newLabel (by omega) (by omega) (fun r1 r1_0 f1 f2 => ?_)
  refine ok_X12_newLabel (by omega) (by omega) (fun r6 r6_0 f3 f4 => ?_)
  refine ⟨i_in (by omega) (by omega), ?_⟩
  intro x16 ex16
  have h16 := zg_at2 ex16 u3
  have j_26 : ∀ (s0_26 : Int32), ((s0_26.toInt = 0) ∨ (s0_26.toInt = 1)) → ((s0_26.toInt = 1 ∧ zg v_value (gbs + p2.toInt) = 2) ∨ (s0_26.toInt = 0 ∧ zg v_value (gbs + p2.toInt) ≠ 2)) → w_X12_compileLoop_26 p2 Q s0_26 r1 r6 r6_0 v_tasks v_task v_taskA v_taskB := by
    intro s0_26 f5 u26_0
    unfold w_X12_compileLoop_26
    have j_41 : ∀ (v_tasks_41 : Int32) (v_task_41 : Nat → Int32) (v_taskA_41 : Nat → Int32) (v_taskB_41 : Nat → Int32), v_tasks.toInt ≤ v_tasks_41.toInt → v_tasks_41.toInt ≤ v_tasks.toInt + 8 → ((v_tasks_41.toInt = v_tasks.toInt) ∨ (v_tasks_41.toInt = v_tasks.toInt + 1)) → ((v_tasks_41.toInt = v_tasks.toInt ∧ s0_26.toInt = 0) ∨ (v_tasks_41.toInt = v_tasks.toInt + 1)) → (zL4 v_sort v_value v_end v_act v_actA v_actB v_labelAt v_task_41 v_taskA_41 v_taskB_41 gZ gbs gn9 gfi v_acts.toInt v_labels.toInt v_tasks_41.toInt gC gsi gs0 gta p2.toInt gB1 gB2) → w_X12_compileLoop_41 p2 Q r1 r6 s0_26 r6_0 v_tasks_41 v_task_41 v_taskA_41 v_taskB_41 := by
      intro v_tasks_41 v_task_41 v_taskA_41 v_taskB_41 f6 f7 f8 f9 u41_0
      unfold w_X12_compileLoop_41
      refine ok_X12_later (by omega) (by omega) (fun r47_0 r47_1 r47_2 r47_3 f10 u47_0 u47_1 u47_2 => ?_)
      refine ok_X12_later (by omega) (by omega) (fun r55_0 r55_1 r55_2 r55_3 f11 u55_0 u55_1 u55_2 => ?_)
      intro x63 ex63
      have f12 : x63.toInt = p2.toInt + 1 := i_add (a := p2.toInt) (b := 1) ex63 rfl rfl (by omega) (by omega)
      refine ok_X12_later (by omega) (by omega) (fun r65_0 r65_1 r65_2 r65_3 f13 u65_0 u65_1 u65_2 => ?_)
      refine ok_X12_later (by omega) (by omega) (fun r74_0 r74_1 r74_2 r74_3 f14 u74_0 u74_1 u74_2 => ?_)
      refine ok_X12_later (by omega) (by omega) (fun r82_0 r82_1 r82_2 r82_3 f15 u82_0 u82_1 u82_2 => ?_)
      refine ok_X12_later (by omega) (by omega) (fun r90_0 r90_1 r90_2 r90_3 f16 u90_0 u90_1 u90_2 => ?_)
      have h93 := zJ_3 u0 u41_0 u47_0 u47_1 u47_2 u55_0 u55_1 u55_2 u65_0 u65_1 u65_2 u74_0 u74_1 u74_2 u82_0 u82_1 u82_2 u90_0 u90_1 u90_2 u1 u2 ⟨by decide, by decide, by decide, by decide, by decide, by decide⟩ ⟨by omega, rfl, by omega, rfl, by omega, rfl⟩ ⟨by omega, by omega⟩ ⟨by omega, by omega, by omega, by omega, by omega, (show r90_0.toInt = r82_0.toInt + 1 by omega)⟩
      have j_106 : ∀ (v_tasks_106 : Int32) (v_task_106 : Nat → Int32) (v_taskA_106 : Nat → Int32) (v_taskB_106 : Nat → Int32), v_tasks.toInt ≤ v_tasks_106.toInt → v_tasks_106.toInt ≤ v_tasks.toInt + 8 → ((v_tasks_106.toInt = r90_0.toInt ∧ s0_26.toInt = 0) ∨ (v_tasks_106.toInt = r90_0.toInt + 1)) → (zWp v_sort v_value v_end v_act v_actA v_actB v_labelAt v_task_106 v_taskA_106 v_taskB_106 gZ gbs gn9 gfi v_acts.toInt r6_0.toInt v_tasks_106.toInt gC gsi (p2.toInt) gB1 gB2) → w_X12_compileLoop_106 Q r6_0 v_tasks_106 v_task_106 v_taskA_106 v_taskB_106 := by
        intro v_tasks_106 v_task_106 v_taskA_106 v_taskB_106 f17 f18 f19 u106_0
        unfold w_X12_compileLoop_106
        exact hq r6_0 v_tasks_106 v_task_106 v_taskA_106 v_taskB_106 (by omega) (by omega) (by omega) (by omega) (by assumption)
      refine ⟨fun c95 => ?_, fun c95 => ?_⟩
      · have f20 : s0_26.toInt = 0 := i_eq (a := s0_26.toInt) (b := 0) rfl rfl c95
        exact j_106 r90_0 r90_1 r90_2 r90_3 (by omega) (by omega) (by omega) (by first | exact zJ_5 u0 h93 u103_0 u103_1 u103_2 u1 u2 (by omega) (by omega) (by decide) rfl (by omega) | exact zJ_4 u0 h93 u1 u2 (by omega) (by omega))
      · have f21 : s0_26.toInt ≠ 0 := i_ne (a := s0_26.toInt) (b := 0) rfl rfl c95
        refine ok_X12_later (by omega) (by omega) (fun r103_0 r103_1 r103_2 r103_3 f22 u103_0 u103_1 u103_2 => ?_)
        exact j_106 r103_0 r103_1 r103_2 r103_3 (by omega) (by omega) (by omega) (by first | exact zJ_5 u0 h93 u103_0 u103_1 u103_2 u1 u2 (by omega) (by omega) (by decide) rfl (by omega) | exact zJ_4 u0 h93 u1 u2 (by omega) (by omega))
    refine ⟨fun c30 => ?_, fun c30 => ?_⟩
    · have f23 : s0_26.toInt = 0 := i_eq (a := s0_26.toInt) (b := 0) rfl rfl c30
      exact j_41 v_tasks v_task v_taskA v_taskB (by omega) (by omega) (by omega) (by omega) (by first | exact zJ_2 u0 u38_0 u38_1 u38_2 u1 u2 (by omega) (by decide) rfl (by omega) | exact zJ_1 u0 u1 u2 (by omega))
    · have f24 : s0_26.toInt ≠ 0 := i_ne (a := s0_26.toInt) (b := 0) rfl rfl c30
      refine ok_X12_later (by omega) (by omega) (fun r38_0 r38_1 r38_2 r38_3 f25 u38_0 u38_1 u38_2 => ?_)
      exact j_41 r38_0 r38_1 r38_2 r38_3 (by omega) (by omega) (by omega) (by omega) (by first | exact zJ_2 u0 u38_0 u38_1 u38_2 u1 u2 (by omega) (by decide) rfl (by omega) | exact zJ_1 u0 u1 u2 (by omega))
  refine ⟨fun c18 => ?_, fun c18 => ?_⟩
  · have f26 : x16.toInt ≠ 2 := i_ne (a := x16.toInt) (b := 2) rfl rfl c18
    exact j_26 0 (by omega) (by first | exact Or.inl ⟨rfl, by omega⟩ | exact Or.inr ⟨rfl, by omega⟩)
  · have f27 : x16.toInt = 2 := i_eq (a := x16.toInt) (b := 2) rfl rfl c18
    exact j_26 1 (by omega) (by first | exact Or.inl ⟨rfl, by omega⟩ | exact Or.inr ⟨rfl, by omega⟩)
set_option maxHeartbeats 4000000 in
theorem ok_X12_compileChoice {p1 : Int32} {v_labels : Int32} {v_tasks : Int32} {v_task : Nat → Int32} {v_taskA : Nat → Int32} {v_taskB : Nat → Int32} {v_held : Nat → Int32} {gZ : Int → Int} {gC : Int → zT} {gL : Int → zT} {gsi : zT} {gs0 : zT} {gta : zT} {gbs : Int} {gq9 : Int} {gn9 : Int} {gc9 : Int} {gfi : Int} {gB1 : Int} {gB2 : Int} {v_sort : Nat → Int32} {v_value : Nat → Int32} {v_least : Nat → Int32} {v_most : Nat → Int32} {v_holder : Nat → Int32} {v_parts : Nat → Int32} {v_end : Nat → Int32} {v_firstPart : Nat → Int32} {v_partBegin : Nat → Int32} {v_partEnd : Nat → Int32} {v_act : Nat → Int32} {v_actA : Nat → Int32} {v_actB : Nat → Int32} {v_labelAt : Nat → Int32} {v_acts : Int32} {gk : Int} {gP : Int → Int} {gE : Int} {gB3 : Int} {Q : Int32 → Int32 → (Nat → Int32) → (Nat → Int32) → (Nat → Int32) → Prop} (a0 : 0 ≤ v_tasks.toInt) (a1 : v_tasks.toInt ≤ 4900) (a2 : 0 ≤ v_labels.toInt) (a3 : v_labels.toInt ≤ 2700) (a4 : 1 ≤ p1.toInt) (a5 : p1.toInt ≤ 220) (u0 : zND v_sort v_value v_least v_most v_holder v_parts v_end v_firstPart v_partBegin v_partEnd v_act v_actA v_actB v_labelAt v_task v_taskA v_taskB gZ gbs gq9 gn9 gc9 gfi v_acts.toInt v_labels.toInt v_tasks.toInt gC gL gsi gs0 gta (gk) gB1 gB2) (u1 : zHe v_held v_end gbs p1.toInt gk (zg v_end (gbs + gk))) (u2 : zEN gE gfi v_sort v_least v_most v_end gbs gn9 gP v_task v_taskA v_tasks.toInt (gk) gB3) (hq : ∀ (ov_labels : Int32) (ov_tasks : Int32) (ov_task : Nat → Int32) (ov_taskA : Nat → Int32) (ov_taskB : Nat → Int32), ov_labels.toInt ≤ p1.toInt + v_labels.toInt → p1.toInt + v_labels.toInt ≤ ov_labels.toInt + 220 → v_labels.toInt + 1 ≤ ov_labels.toInt → v_labels.toInt ≤ ov_labels.toInt + 1 → v_labels.toInt ≤ ov_labels.toInt → v_labels.toInt ≤ ov_labels.toInt + 2 → 0 ≤ ov_labels.toInt + 1 → 0 ≤ ov_labels.toInt → 1 ≤ ov_labels.toInt → ov_labels.toInt ≤ 2999 → 0 ≤ ov_tasks.toInt + 1 → 0 ≤ ov_tasks.toInt → 1 ≤ ov_tasks.toInt → 2 ≤ ov_tasks.toInt → v_tasks.toInt + 2 ≤ ov_tasks.toInt → ov_tasks.toInt + 4 * v_labels.toInt + 2 = 4 * ov_labels.toInt + v_tasks.toInt → v_tasks.toInt ≤ ov_tasks.toInt → ov_tasks.toInt ≤ v_tasks.toInt + 900 → ov_labels.toInt ≤ v_labels.toInt + 220 → p1.toInt + v_labels.toInt ≤ ov_labels.toInt → (zCi v_sort v_value v_end v_act v_actA v_actB v_labelAt ov_task ov_taskA ov_taskB gZ gbs gn9 gfi v_acts.toInt ov_labels.toInt ov_tasks.toInt gC gsi gta gs0.1 v_labels.toInt (gk + 1) (zg v_end (gbs + gk)) gB1 gB2) → (zEr gE gP v_end ov_task ov_taskA gbs ov_tasks.toInt (gk) (gk + 1) (zg v_end (gbs + gk)) gB3) → Q ov_labels ov_tasks ov_task ov_taskA ov_taskB) : w_X12_compileChoice p1 v_labels v_tasks v_task v_taskA v_taskB v_held Q := by
  have q_t : (bz true).toInt = 1 := rfl
  have q_f : (bz false).toInt = 0 := rfl
  have q_0 : (0 : Int32).toInt = 0 := rfl
  have q_3 : (3 : Int32).toInt = 3 := rfl
  have q_5 : (5 : Int32).toInt = 5 := rfl
  have q_100 : (100 : Int32).toInt = 100 := rfl
  have q_101 : (101 : Int32).toInt = 101 := rfl
  unfold w_X12_compileChoice
  refine ok_X12_newLabel (by omega) (by omega) (fun r1 r1_0 f1 f2 => ?_)
  refine ok_X12_later (by omega) (by omega) (fun r10_0 r10_1 r10_2 r10_3 f3 u10_0 u10_1 u10_2 => ?_)
  intro x22 ex22
  have f4 : x22.toInt = p1.toInt - 1 := i_sub (a := p1.toInt) (b := 1) ex22 rfl rfl (by omega) (by omega)
  refine ⟨i_in (by omega) (by omega), ?_⟩
  intro x23 ex23
  refine ok_X12_later (by omega) (by omega) (fun r25_0 r25_1 r25_2 r25_3 f5 u25_0 u25_1 u25_2 => ?_)
  intro x30 ex30
  have f6 : x30.toInt = p1.toInt - 2 := i_sub (a := p1.toInt) (b := 2) ex30 rfl rfl (by omega) (by omega)
  have j_32 : ∀ n_32 : Nat, ∀ (l3_32 : Int32) (v_labels_32 : Int32) (v_tasks_32 : Int32) (v_task_32 : Nat → Int32) (v_taskA_32 : Nat → Int32) (v_taskB_32 : Nat → Int32), 4 * l3_32.toInt + v_tasks_32.toInt + 6 = 4 * p1.toInt + v_tasks.toInt → l3_32.toInt + v_labels_32.toInt + 1 = p1.toInt + v_labels.toInt → 0 ≤ l3_32.toInt + 1 → v_tasks.toInt ≤ v_tasks_32.toInt → (zCi v_sort v_value v_end v_act v_actA v_actB v_labelAt v_task_32 v_taskA_32 v_taskB_32 gZ gbs gn9 gfi v_acts.toInt v_labels_32.toInt v_tasks_32.toInt gC gsi gta gs0.1 v_labels.toInt (zg v_held (l3_32.toInt + 1)) (zg v_end (gbs + gk)) gB1 gB2) → (zEr gE gP v_end v_task_32 v_taskA_32 gbs v_tasks_32.toInt (gk) (zg v_held (l3_32.toInt + 1)) (zg v_end (gbs + gk)) gB3) → (l3_32.toInt + 2147483649).toNat < n_32 → w_X12_compileChoice_32 v_held Q r1 n_32 l3_32 v_labels_32 v_tasks_32 v_task_32 v_taskA_32 v_taskB_32 := by
    intro n_32
    induction n_32 with
    | zero =>
      intro l3_32 v_labels_32 v_tasks_32 v_task_32 v_taskA_32 v_taskB_32 f7 f8 f9 f10 u32_0 u32_1 hm_32
      exfalso; omega
    | succ n_32 ih_32 =>
      intro l3_32 v_labels_32 v_tasks_32 v_task_32 v_taskA_32 v_taskB_32 f7 f8 f9 f10 u32_0 u32_1 hm_32
      unfold w_X12_compileChoice_32
      unfold w_X12_compileChoice_32B
      refine ⟨fun c33 => ?_, fun c33 => ?_⟩
      · have f11 : l3_32.toInt < 0 := i_lt (a := l3_32.toInt) (b := 0) rfl rfl c33
        exact hq v_labels_32 v_tasks_32 v_task_32 v_taskA_32 v_taskB_32 (by omega) (by omega) (by omega) (by omega) (by omega) (by omega) (by omega) (by omega) (by omega) (by omega) (by omega) (by omega) (by omega) (by omega) (by omega) (by omega) (by omega) (by omega) (by omega) (by omega) (by exact zCi_e u32_0 u1 (by omega) (by omega)) (by exact zEc_e u32_1 u1 (by omega) (by omega))
      · have f12 : 0 ≤ l3_32.toInt := i_nlt (a := l3_32.toInt) (b := 0) rfl rfl c33
        refine ok_X12_newLabel (by omega) (by omega) (fun r37 r37_0 f13 f14 => ?_)
        refine ok_X12_later (by omega) (by omega) (fun r48_0 r48_1 r48_2 r48_3 f15 u48_0 u48_1 u48_2 => ?_)
        refine ok_X12_later (by omega) (by omega) (fun r55_0 r55_1 r55_2 r55_3 f16 u55_0 u55_1 u55_2 => ?_)
        refine ⟨i_in (by omega) (by omega), ?_⟩
        intro x66 ex66
        refine ok_X12_later (by omega) (by omega) (fun r68_0 r68_1 r68_2 r68_3 f17 u68_0 u68_1 u68_2 => ?_)
        refine ok_X12_later (by omega) (by omega) (fun r76_0 r76_1 r76_2 r76_3 f18 u76_0 u76_1 u76_2 => ?_)
        intro x79 ex79
        have f19 : x79.toInt = l3_32.toInt + (-1) := i_add (a := l3_32.toInt) (b := (-1)) ex79 rfl rfl (by omega) (by omega)
        exact ih_32 x79 r37_0 r76_0 r76_1 r76_2 r76_3  (by omega) (by omega) (by omega) (by omega) (by first | exact zCi_s u0 u1 u32_0 u48_0 u48_1 u48_2 u55_0 u55_1 u55_2 u68_0 u68_1 u68_2 u76_0 u76_1 u76_2 ex66 (by omega) (by omega) rfl ⟨by decide, by decide, by decide, by decide⟩ ⟨by omega, by omega, by omega⟩ (by omega) ⟨by omega, by omega, by omega, by omega⟩ (zg_at2 ex66 (by omega)).symm (by omega) | exact zCi_0 u0 u1 u10_0 u10_1 u10_2 u25_0 u25_1 u25_2 ex23 (by omega) (by omega) (by decide) (by decide) (by omega) (by omega) (by omega) (by omega) (zg_at2 ex23 (by omega)).symm rfl) (by first | exact zEc_s u0 u2 u1 u32_1 u48_0 u48_1 u55_0 u55_1 u68_0 u68_1 u76_0 u76_1 ex66 (by decide) (by decide) (by decide) (by decide) (by omega) (by omega) (by omega) (by omega) (by omega) (by omega) (by omega) (zg_at2 ex66 (by omega)).symm | exact zEc_0 u0 u2 u1 u10_0 u10_1 u25_0 u25_1 ex23 (by omega) (by omega) (by decide) (by decide) (by omega) (by omega) (by omega) (zg_at2 ex23 (by omega)).symm) (by have h8_0 := i_rng l3_32; have h8_1 := i_rng x79; omega)
  exact ⟨(x30.toInt + 2147483649).toNat + 1, j_32   ((x30.toInt + 2147483649).toNat + 1) x30 r1_0 r25_0 r25_1 r25_2 r25_3  (by omega) (by omega) (by omega) (by omega) (by first | exact zCi_s u0 u1 u32_0 u48_0 u48_1 u48_2 u55_0 u55_1 u55_2 u68_0 u68_1 u68_2 u76_0 u76_1 u76_2 ex66 (by omega) (by omega) rfl ⟨by decide, by decide, by decide, by decide⟩ ⟨by omega, by omega, by omega⟩ (by omega) ⟨by omega, by omega, by omega, by omega⟩ (zg_at2 ex66 (by omega)).symm (by omega) | exact zCi_0 u0 u1 u10_0 u10_1 u10_2 u25_0 u25_1 u25_2 ex23 (by omega) (by omega) (by decide) (by decide) (by omega) (by omega) (by omega) (by omega) (zg_at2 ex23 (by omega)).symm rfl) (by first | exact zEc_s u0 u2 u1 u32_1 u48_0 u48_1 u55_0 u55_1 u68_0 u68_1 u76_0 u76_1 ex66 (by decide) (by decide) (by decide) (by decide) (by omega) (by omega) (by omega) (by omega) (by omega) (by omega) (by omega) (zg_at2 ex66 (by omega)).symm | exact zEc_0 u0 u2 u1 u10_0 u10_1 u25_0 u25_1 ex23 (by omega) (by omega) (by decide) (by decide) (by omega) (by omega) (by omega) (zg_at2 ex23 (by omega)).symm) (by omega)⟩
set_option maxHeartbeats 4000000 in
theorem ok_X12_compileCopies {p1 : Int32} {p2 : Int32} {v_labels : Int32} {v_tasks : Int32} {v_value : Nat → Int32} {v_least : Nat → Int32} {v_most : Nat → Int32} {v_task : Nat → Int32} {v_taskA : Nat → Int32} {v_taskB : Nat → Int32} {gZ : Int → Int} {gC : Int → zT} {gL : Int → zT} {gsi : zT} {gs0 : zT} {gta : zT} {gbs : Int} {gq9 : Int} {gn9 : Int} {gc9 : Int} {gfi : Int} {gB1 : Int} {gB2 : Int} {v_sort : Nat → Int32} {v_holder : Nat → Int32} {v_parts : Nat → Int32} {v_end : Nat → Int32} {v_firstPart : Nat → Int32} {v_partBegin : Nat → Int32} {v_partEnd : Nat → Int32} {v_act : Nat → Int32} {v_actA : Nat → Int32} {v_actB : Nat → Int32} {v_labelAt : Nat → Int32} {v_acts : Int32} {gP : Int → Int} {gE : Int} {gB3 : Int} {Q : Int32 → Int32 → (Nat → Int32) → (Nat → Int32) → (Nat → Int32) → Prop} (a0 : 0 ≤ v_tasks.toInt) (a1 : v_tasks.toInt ≤ 5900) (a2 : 0 ≤ v_labels.toInt) (a3 : v_labels.toInt ≤ 2900) (a4 : 0 ≤ p2.toInt) (a5 : p2.toInt ≤ 219) (a6 : 0 ≤ p1.toInt) (a7 : p1.toInt ≤ 1319) (u0 : zND v_sort v_value v_least v_most v_holder v_parts v_end v_firstPart v_partBegin v_partEnd v_act v_actA v_actB v_labelAt v_task v_taskA v_taskB gZ gbs gq9 gn9 gc9 gfi v_acts.toInt v_labels.toInt v_tasks.toInt gC gL gsi gs0 gta (p2.toInt) gB1 gB2) (u1 : zg v_sort (gbs + p2.toInt) = 7) (u2 : gfi = 1) (u3 : p1.toInt = gbs + p2.toInt) (u4 : zEN gE gfi v_sort v_least v_most v_end gbs gn9 gP v_task v_taskA v_tasks.toInt (p2.toInt) gB3) (hq : ∀ (ov_labels : Int32) (ov_tasks : Int32) (ov_task : Nat → Int32) (ov_taskA : Nat → Int32) (ov_taskB : Nat → Int32), v_labels.toInt ≤ ov_labels.toInt → ov_labels.toInt ≤ v_labels.toInt + 2 → 0 ≤ ov_labels.toInt → 0 ≤ ov_tasks.toInt + 1 → 0 ≤ ov_tasks.toInt → 1 ≤ ov_tasks.toInt → ov_tasks.toInt ≤ 5999 → v_tasks.toInt ≤ ov_tasks.toInt → ov_tasks.toInt ≤ v_tasks.toInt + 70 → 1 ≤ ov_labels.toInt → (zWp v_sort v_value v_end v_act v_actA v_actB v_labelAt ov_task ov_taskA ov_taskB gZ gbs gn9 gfi v_acts.toInt ov_labels.toInt ov_tasks.toInt gC gsi (p2.toInt) gB1 gB2) → (zEQ gE gP ov_task ov_taskA ov_tasks.toInt gB3) → Q ov_labels ov_tasks ov_task ov_taskA ov_taskB) : w_X12_compileCopies p1 p2 v_labels v_tasks v_value v_least v_most v_task v_taskA v_taskB Q := by
  have q_t : (bz true).toInt = 1 := rfl
  have q_f : (bz false).toInt = 0 := rfl
  have q_0 : (0 : Int32).toInt = 0 := rfl
  have q_3 : (3 : Int32).toInt = 3 := rfl
  have q_4 : (4 : Int32).toInt = 4 := rfl
  have q_5 : (5 : Int32).toInt = 5 := rfl
  have q_100 : (100 : Int32).toInt = 100 := rfl
  have q_101 : (101 : Int32).toInt = 101 := rfl
  unfold w_X12_compileCopies
  have hlm := zN_lm u0
  refine ok_X12_newLabel (by omega) (by omega) (fun r1 r1_0 f1 f2 => ?_)
  refine ⟨i_in (by omega) (by omega), ?_⟩
  intro x10 ex10
  have j_20 : ∀ (s0_20 : Int32), ((s0_20.toInt = 3) ∨ (s0_20.toInt = 4)) → (s0_20.toInt = 3 ∨ s0_20.toInt = 4) → w_X12_compileCopies_20 p1 p2 v_least v_most Q s0_20 r1 r1_0 v_tasks v_task v_taskA v_taskB := by
    intro s0_20 f3 u20_0
    unfold w_X12_compileCopies_20
    refine ok_X12_later (by omega) (by omega) (fun r27_0 r27_1 r27_2 r27_3 f4 u27_0 u27_1 u27_2 => ?_)
    have h27 := zCp_0 (t := 0) (ll := v_labels.toInt) (lb' := r1_0.toInt) (m' := r27_0.toInt) u0 u27_0 u27_1 u27_2 u1 u2 (by decide) (by omega) (by omega) (by omega) rfl rfl
    have hE27 := zEp_0 (m' := r27_0.toInt) u4 u27_0 u27_1 (by decide) (by omega) (by omega)
    refine ⟨i_in (by omega) (by omega), ?_⟩
    intro x35 ex35
    have h35 := zg_at2 ex35 u3
    have j_81 : ∀ (v_labels_81 : Int32) (v_tasks_81 : Int32) (v_task_81 : Nat → Int32) (v_taskA_81 : Nat → Int32) (v_taskB_81 : Nat → Int32), v_labels.toInt ≤ v_labels_81.toInt → v_tasks.toInt ≤ v_tasks_81.toInt → v_tasks_81.toInt ≤ v_tasks.toInt + 70 → v_labels_81.toInt ≤ v_labels.toInt + 2 → v_tasks_81.toInt ≤ v_tasks.toInt + 5 → ((v_labels_81.toInt = r1_0.toInt ∧ v_tasks_81.toInt = r27_0.toInt) ∨ (v_labels_81.toInt = r1_0.toInt + 1 ∧ v_tasks_81.toInt = r27_0.toInt + 4)) → (zCp v_sort v_value v_end v_act v_actA v_actB v_labelAt v_task_81 v_taskA_81 v_taskB_81 gZ gbs gn9 gfi v_acts.toInt v_labels_81.toInt v_tasks_81.toInt gC gsi gta v_labels.toInt p2.toInt (zT1 v_most (gbs + p2.toInt)) gB1 gB2) → (zEp gE gP v_task_81 v_taskA_81 v_tasks_81.toInt p2.toInt (zT1 v_most (gbs + p2.toInt)) gB3) → w_X12_compileCopies_81 p1 p2 v_least v_most Q r1 s0_20 v_labels_81 v_tasks_81 v_task_81 v_taskA_81 v_taskB_81 := by
      intro v_labels_81 v_tasks_81 v_task_81 v_taskA_81 v_taskB_81 f5 f6 f7 f8 f9 f10 u81_0 u81_1
      unfold w_X12_compileCopies_81
      refine ⟨i_in (by omega) (by omega), ?_⟩
      intro x86 ex86
      have h86 := zg_at2 ex86 u3
      have f11 : (0 ≤ x86.toInt ∧ x86.toInt ≤ 20) := by omega
      have j_89 : ∀ n_89 : Nat, ∀ (l5_89 : Int32) (v_tasks_89 : Int32) (v_task_89 : Nat → Int32) (v_taskA_89 : Nat → Int32) (v_taskB_89 : Nat → Int32), x86.toInt ≤ l5_89.toInt → v_tasks_81.toInt ≤ v_tasks_89.toInt → v_tasks_89.toInt ≤ 2 * l5_89.toInt + v_tasks.toInt + 5 → l5_89.toInt ≤ 20 → (zCp v_sort v_value v_end v_act v_actA v_actB v_labelAt v_task_89 v_taskA_89 v_taskB_89 gZ gbs gn9 gfi v_acts.toInt v_labels_81.toInt v_tasks_89.toInt gC gsi gta v_labels.toInt p2.toInt (zT1 v_most (gbs + p2.toInt) + (l5_89.toInt - zg v_least (gbs + p2.toInt))) gB1 gB2) → ((l5_89.toInt = zg v_least (gbs + p2.toInt) ∨ l5_89.toInt ≤ zg v_most (gbs + p2.toInt)) ∧ zg v_least (gbs + p2.toInt) ≤ l5_89.toInt) → (zEp gE gP v_task_89 v_taskA_89 v_tasks_89.toInt p2.toInt (zT1 v_most (gbs + p2.toInt) + (l5_89.toInt - zg v_least (gbs + p2.toInt))) gB3) → ((-1) * l5_89.toInt + 100).toNat < n_89 → w_X12_compileCopies_89 p1 p2 v_least v_most Q r1 s0_20 v_labels_81 n_89 l5_89 v_tasks_89 v_task_89 v_taskA_89 v_taskB_89 := by
        intro n_89
        induction n_89 with
        | zero =>
          intro l5_89 v_tasks_89 v_task_89 v_taskA_89 v_taskB_89 f12 f13 f14 f15 u89_0 u89_1 u89_2 hm_89
          exfalso; omega
        | succ n_89 ih_89 =>
          intro l5_89 v_tasks_89 v_task_89 v_taskA_89 v_taskB_89 f12 f13 f14 f15 u89_0 u89_1 u89_2 hm_89
          unfold w_X12_compileCopies_89
          unfold w_X12_compileCopies_89B
          refine ⟨i_in (by omega) (by omega), ?_⟩
          intro x96 ex96
          have f16 : x96.toInt = x35.toInt := congrArg Int32.toInt (ex96.trans ex35.symm)
          have h96 := zg_at2 ex96 u3
          have f17 : (0 ≤ x96.toInt + 1 ∧ x96.toInt ≤ 20) := by omega
          refine ⟨fun c97 => ?_, fun c97 => ?_⟩
          · have f18 : x96.toInt ≤ l5_89.toInt := i_le (a := x96.toInt) (b := l5_89.toInt) rfl rfl c97
            have j_127 : ∀ n_127 : Nat, ∀ (l5_127 : Int32) (v_tasks_127 : Int32) (v_task_127 : Nat → Int32) (v_taskA_127 : Nat → Int32) (v_taskB_127 : Nat → Int32), l5_127.toInt ≤ v_tasks_127.toInt → v_tasks_89.toInt ≤ v_tasks_127.toInt → v_tasks_127.toInt ≤ l5_127.toInt + v_tasks.toInt + 45 → 0 ≤ l5_127.toInt → l5_127.toInt ≤ 20 → (zCp v_sort v_value v_end v_act v_actA v_actB v_labelAt v_task_127 v_taskA_127 v_taskB_127 gZ gbs gn9 gfi v_acts.toInt v_labels_81.toInt v_tasks_127.toInt gC gsi gta v_labels.toInt p2.toInt (zT0 v_least v_most (gbs + p2.toInt) + l5_127.toInt) gB1 gB2) → (l5_127.toInt ≤ zg v_least (gbs + p2.toInt)) → (zEp gE gP v_task_127 v_taskA_127 v_tasks_127.toInt p2.toInt (zT0 v_least v_most (gbs + p2.toInt) + l5_127.toInt) gB3) → ((-1) * l5_127.toInt + 100).toNat < n_127 → w_X12_compileCopies_127 p1 p2 v_least Q v_labels_81 n_127 l5_127 v_tasks_127 v_task_127 v_taskA_127 v_taskB_127 := by
              intro n_127
              induction n_127 with
              | zero =>
                intro l5_127 v_tasks_127 v_task_127 v_taskA_127 v_taskB_127 f19 f20 f21 f22 f23 u127_0 u127_1 u127_2 hm_127
                exfalso; omega
              | succ n_127 ih_127 =>
                intro l5_127 v_tasks_127 v_task_127 v_taskA_127 v_taskB_127 f19 f20 f21 f22 f23 u127_0 u127_1 u127_2 hm_127
                unfold w_X12_compileCopies_127
                unfold w_X12_compileCopies_127B
                refine ⟨i_in (by omega) (by omega), ?_⟩
                intro x134 ex134
                have f24 : x134.toInt = x86.toInt := congrArg Int32.toInt (ex134.trans ex86.symm)
                have h134 := zg_at2 ex134 u3
                have f25 : (0 ≤ x134.toInt ∧ x134.toInt ≤ 20) := by omega
                refine ⟨fun c135 => ?_, fun c135 => ?_⟩
                · have f26 : x134.toInt ≤ l5_127.toInt := i_le (a := x134.toInt) (b := l5_127.toInt) rfl rfl c135
                  exact hq v_labels_81 v_tasks_127 v_task_127 v_taskA_127 v_taskB_127 (by omega) (by omega) (by omega) (by omega) (by omega) (by omega) (by omega) (by omega) (by omega) (by omega) (by exact zCp_e u0 u127_0 u1 u2 (by omega)) (by exact zEp_e u0 u4 u127_2 u1 (by omega))
                · have f27 : l5_127.toInt < x134.toInt := i_nle (a := x134.toInt) (b := l5_127.toInt) rfl rfl c135
                  intro x143 ex143
                  have f28 : x143.toInt = p2.toInt + 1 := i_add (a := p2.toInt) (b := 1) ex143 rfl rfl (by omega) (by omega)
                  refine ok_X12_later (by omega) (by omega) (fun r145_0 r145_1 r145_2 r145_3 f29 u145_0 u145_1 u145_2 => ?_)
                  intro x148 ex148
                  have f30 : x148.toInt = l5_127.toInt + 1 := i_add (a := l5_127.toInt) (b := 1) ex148 rfl rfl (by omega) (by omega)
                  exact ih_127 x148 r145_0 r145_1 r145_2 r145_3  (by omega) (by omega) (by omega) (by omega) (by omega) (by first | exact zCp_n u0 u127_0 u145_0 u145_1 u145_2 u1 u2 (by decide) (by omega) (by omega) (by omega) | (rw [← zT_e (L' := (0 : Int32).toInt) u89_1.1 u89_1.2 (by omega) hlm.2.2 hlm.1.1 rfl]; exact u89_0)) (by first | omega | exact hlm.1.1) (by first | exact zEp_n u0 u4 u127_2 u145_0 u145_1 u1 (by decide) (by omega) (by omega) (by omega) (by omega) | exact zEp_t u89_2 (zT_e (L' := (0 : Int32).toInt) u89_1.1 u89_1.2 (by omega) hlm.2.2 hlm.1.1 rfl)) (by have h8_0 := i_rng l5_127; have h8_1 := i_rng x148; omega)
            exact ⟨(100 : Int).toNat + 1, j_127   ((100 : Int).toNat + 1) 0 v_tasks_89 v_task_89 v_taskA_89 v_taskB_89  (by omega) (by omega) (by omega) (by omega) (by omega) (by first | exact zCp_n u0 u127_0 u145_0 u145_1 u145_2 u1 u2 (by decide) (by omega) (by omega) (by omega) | (rw [← zT_e (L' := (0 : Int32).toInt) u89_1.1 u89_1.2 (by omega) hlm.2.2 hlm.1.1 rfl]; exact u89_0)) (by first | omega | exact hlm.1.1) (by first | exact zEp_n u0 u4 u127_2 u145_0 u145_1 u1 (by decide) (by omega) (by omega) (by omega) (by omega) | exact zEp_t u89_2 (zT_e (L' := (0 : Int32).toInt) u89_1.1 u89_1.2 (by omega) hlm.2.2 hlm.1.1 rfl)) (by omega)⟩
          · have f31 : l5_89.toInt < x96.toInt := i_nle (a := x96.toInt) (b := l5_89.toInt) rfl rfl c97
            intro x105 ex105
            have f32 : x105.toInt = p2.toInt + 1 := i_add (a := p2.toInt) (b := 1) ex105 rfl rfl (by omega) (by omega)
            refine ok_X12_later (by omega) (by omega) (fun r107_0 r107_1 r107_2 r107_3 f33 u107_0 u107_1 u107_2 => ?_)
            refine ok_X12_later (by omega) (by omega) (fun r115_0 r115_1 r115_2 r115_3 f34 u115_0 u115_1 u115_2 => ?_)
            intro x118 ex118
            have f35 : x118.toInt = l5_89.toInt + 1 := i_add (a := l5_89.toInt) (b := 1) ex118 rfl rfl (by omega) (by omega)
            exact ih_89 x118 r115_0 r115_1 r115_2 r115_3  (by omega) (by omega) (by omega) (by omega) (by first | exact zCp_s u0 u89_0 u107_0 u107_1 u107_2 u115_0 u115_1 u115_2 u1 u2 (by decide) u20_0 (by omega) (by omega) (by omega) (by omega) (by omega) (by omega) | (rw [show zT1 v_most (gbs + p2.toInt) + (x86.toInt - zg v_least (gbs + p2.toInt)) = zT1 v_most (gbs + p2.toInt) by omega]; exact u81_0)) (by omega) (by first | exact zEp_o (zEp_n u0 u4 u89_2 u107_0 u107_1 u1 (by decide) (by omega) (by omega) (by omega) (by omega)) u115_0 u115_1 (by omega) (by omega) (by omega) (by omega) | exact zEp_t u81_1 (by omega)) (by have h8_0 := i_rng l5_89; have h8_1 := i_rng x118; omega)
      exact ⟨((-1) * x86.toInt + 100).toNat + 1, j_89   (((-1) * x86.toInt + 100).toNat + 1) x86 v_tasks_81 v_task_81 v_taskA_81 v_taskB_81  (by omega) (by omega) (by omega) (by omega) (by first | exact zCp_s u0 u89_0 u107_0 u107_1 u107_2 u115_0 u115_1 u115_2 u1 u2 (by decide) u20_0 (by omega) (by omega) (by omega) (by omega) (by omega) (by omega) | (rw [show zT1 v_most (gbs + p2.toInt) + (x86.toInt - zg v_least (gbs + p2.toInt)) = zT1 v_most (gbs + p2.toInt) by omega]; exact u81_0)) (by omega) (by first | exact zEp_o (zEp_n u0 u4 u89_2 u107_0 u107_1 u1 (by decide) (by omega) (by omega) (by omega) (by omega)) u115_0 u115_1 (by omega) (by omega) (by omega) (by omega) | exact zEp_t u81_1 (by omega)) (by omega)⟩
    refine ⟨fun c37 => ?_, fun c37 => ?_⟩
    · have f36 : x35.toInt ≠ (-1) := i_ne (a := x35.toInt) (b := (-1)) rfl rfl c37
      exact j_81 r1_0 r27_0 r27_1 r27_2 r27_3 (by omega) (by omega) (by omega) (by omega) (by omega) (by omega) (by first | exact zCp_a u0 h27 u51_0 u51_1 u51_2 u61_0 u61_1 u61_2 u69_0 u69_1 u69_2 u78_0 u78_1 u78_2 u1 u2 ⟨by decide, by decide, u20_0, by decide⟩ ⟨by omega, by omega, by omega, by omega⟩ (by omega) ⟨by omega, by omega, by omega, by omega⟩ (by omega) rfl (if_pos (by omega)) | (rw [show zT1 v_most (gbs + p2.toInt) = 0 from if_neg (by omega)]; exact zCp_w h27)) (by first | exact zEp_t (zEp_o (zEp_o (zEp_n u0 u4 (zEp_o hE27 u51_0 u51_1 (by decide) (by decide) (by omega) (by omega)) u61_0 u61_1 u1 (by decide) (by omega) (by omega) (by omega) rfl) u69_0 u69_1 (by omega) (by omega) (by omega) (by omega)) u78_0 u78_1 (by decide) (by decide) (by omega) (by omega)) (by rw [show zT1 v_most (gbs + p2.toInt) = 1 from if_pos (by omega)]; rfl) | exact zEp_t hE27 (by rw [show zT1 v_most (gbs + p2.toInt) = 0 from if_neg (by omega)]))
    · have f37 : x35.toInt = (-1) := i_eq (a := x35.toInt) (b := (-1)) rfl rfl c37
      refine ok_X12_newLabel (by omega) (by omega) (fun r41 r41_0 f38 f39 => ?_)
      refine ok_X12_later (by omega) (by omega) (fun r51_0 r51_1 r51_2 r51_3 f40 u51_0 u51_1 u51_2 => ?_)
      intro x59 ex59
      have f41 : x59.toInt = p2.toInt + 1 := i_add (a := p2.toInt) (b := 1) ex59 rfl rfl (by omega) (by omega)
      refine ok_X12_later (by omega) (by omega) (fun r61_0 r61_1 r61_2 r61_3 f42 u61_0 u61_1 u61_2 => ?_)
      refine ok_X12_later (by omega) (by omega) (fun r69_0 r69_1 r69_2 r69_3 f43 u69_0 u69_1 u69_2 => ?_)
      refine ok_X12_later (by omega) (by omega) (fun r78_0 r78_1 r78_2 r78_3 f44 u78_0 u78_1 u78_2 => ?_)
      exact j_81 r41_0 r78_0 r78_1 r78_2 r78_3 (by omega) (by omega) (by omega) (by omega) (by omega) (by omega) (by first | exact zCp_a u0 h27 u51_0 u51_1 u51_2 u61_0 u61_1 u61_2 u69_0 u69_1 u69_2 u78_0 u78_1 u78_2 u1 u2 ⟨by decide, by decide, u20_0, by decide⟩ ⟨by omega, by omega, by omega, by omega⟩ (by omega) ⟨by omega, by omega, by omega, by omega⟩ (by omega) rfl (if_pos (by omega)) | (rw [show zT1 v_most (gbs + p2.toInt) = 0 from if_neg (by omega)]; exact zCp_w h27)) (by first | exact zEp_t (zEp_o (zEp_o (zEp_n u0 u4 (zEp_o hE27 u51_0 u51_1 (by decide) (by decide) (by omega) (by omega)) u61_0 u61_1 u1 (by decide) (by omega) (by omega) (by omega) rfl) u69_0 u69_1 (by omega) (by omega) (by omega) (by omega)) u78_0 u78_1 (by decide) (by decide) (by omega) (by omega)) (by rw [show zT1 v_most (gbs + p2.toInt) = 1 from if_pos (by omega)]; rfl) | exact zEp_t hE27 (by rw [show zT1 v_most (gbs + p2.toInt) = 0 from if_neg (by omega)]))
  refine ⟨fun c12 => ?_, fun c12 => ?_⟩
  · have f45 : x10.toInt ≠ 1 := i_ne (a := x10.toInt) (b := 1) rfl rfl c12
    exact j_20 3 (by omega) (by first | exact Or.inl rfl | exact Or.inr rfl)
  · have f46 : x10.toInt = 1 := i_eq (a := x10.toInt) (b := 1) rfl rfl c12
    exact j_20 4 (by omega) (by first | exact Or.inl rfl | exact Or.inr rfl)

set_option maxHeartbeats 4000000 in
theorem ok_X12_compileNode {p1 : Int32} {p2 : Int32} {p3 : Int32} {v_labels : Int32} {v_tasks : Int32} {v_sort : Nat → Int32} {v_value : Nat → Int32} {v_least : Nat → Int32} {v_most : Nat → Int32} {v_end : Nat → Int32} {v_task : Nat → Int32} {v_taskA : Nat → Int32} {v_taskB : Nat → Int32} {v_held : Nat → Int32} {gZ : Int → Int} {gC : Int → zT} {gL : Int → zT} {gsi : zT} {gs0 : zT} {gta : zT} {gbs : Int} {gq9 : Int} {gn9 : Int} {gc9 : Int} {gfi : Int} {gB1 : Int} {gB2 : Int} {v_holder : Nat → Int32} {v_parts : Nat → Int32} {v_firstPart : Nat → Int32} {v_partBegin : Nat → Int32} {v_partEnd : Nat → Int32} {v_act : Nat → Int32} {v_actA : Nat → Int32} {v_actB : Nat → Int32} {v_labelAt : Nat → Int32} {v_acts : Int32} {gP : Int → Int} {gE : Int} {gB3 : Int} {Q : Int32 → Int32 → (Nat → Int32) → (Nat → Int32) → (Nat → Int32) → (Nat → Int32) → Prop} (a0 : 0 ≤ p3.toInt) (a1 : p3.toInt ≤ 1) (a2 : 0 ≤ v_tasks.toInt) (a3 : v_tasks.toInt ≤ 4900) (a4 : 0 ≤ v_labels.toInt) (a5 : v_labels.toInt ≤ 2700) (a6 : 0 ≤ p1.toInt) (a7 : p1.toInt ≤ 5) (a8 : 0 ≤ p2.toInt) (a9 : p2.toInt ≤ 219) (u0 : zND v_sort v_value v_least v_most v_holder v_parts v_end v_firstPart v_partBegin v_partEnd v_act v_actA v_actB v_labelAt v_task v_taskA v_taskB gZ gbs gq9 gn9 gc9 gfi v_acts.toInt v_labels.toInt v_tasks.toInt gC gL gsi gs0 gta (p2.toInt) gB1 gB2) (u1 : gbs = 220 * p1.toInt) (u2 : (gfi = 1 ∧ p3.toInt ≠ 0) ∨ (gfi = 0 ∧ p3.toInt = 0)) (u3 : zEN gE gfi v_sort v_least v_most v_end gbs gn9 gP v_task v_taskA v_tasks.toInt (p2.toInt) gB3) (hq : ∀ (ov_labels : Int32) (ov_tasks : Int32) (ov_task : Nat → Int32) (ov_taskA : Nat → Int32) (ov_taskB : Nat → Int32) (ov_held : Nat → Int32), v_labels.toInt ≤ ov_labels.toInt → v_tasks.toInt ≤ ov_tasks.toInt → ov_labels.toInt ≤ 2999 → ov_tasks.toInt ≤ 5999 → (zWp v_sort v_value v_end v_act v_actA v_actB v_labelAt ov_task ov_taskA ov_taskB gZ gbs gn9 gfi v_acts.toInt ov_labels.toInt ov_tasks.toInt gC gsi (p2.toInt) gB1 gB2) → (zEQ gE gP ov_task ov_taskA ov_tasks.toInt gB3) → Q ov_labels ov_tasks ov_task ov_taskA ov_taskB ov_held) : w_X12_compileNode p1 p2 p3 v_labels v_tasks v_sort v_value v_least v_most v_end v_task v_taskA v_taskB v_held Q := by
  have q_t : (bz true).toInt = 1 := rfl
  have q_f : (bz false).toInt = 0 := rfl
  have q_0 : (0 : Int32).toInt = 0 := rfl
  have q_1 : (1 : Int32).toInt = 1 := rfl
  have q_2 : (2 : Int32).toInt = 2 := rfl
  have q_6 : (6 : Int32).toInt = 6 := rfl
  have q_7 : (7 : Int32).toInt = 7 := rfl
  have q_11 : (11 : Int32).toInt = 11 := rfl
  have q_12 : (12 : Int32).toInt = 12 := rfl
  have q_21 : (21 : Int32).toInt = 21 := rfl
  have q_100 : (100 : Int32).toInt = 100 := rfl
  unfold w_X12_compileNode
  have hr9 := zN_r u0
  intro x4 ex4
  have f1 : x4.toInt = 220 * p1.toInt := i_mul (a := 220) (b := p1.toInt) ex4 rfl rfl (by omega) (by omega)
  intro x10 ex10
  have f2 : x10.toInt = x4.toInt + p2.toInt := i_add (a := x4.toInt) (b := p2.toInt) ex10 rfl rfl (by omega) (by omega)
  intro x18 ex18
  have f3 : x18.toInt = p2.toInt + 1 := i_add (a := p2.toInt) (b := 1) ex18 rfl rfl (by omega) (by omega)
  have j_21 : ∀ n_21 : Nat, ∀ (l6_21 : Int32) (l7_21 : Int32) (v_held_21 : Nat → Int32), 0 ≤ l6_21.toInt → l7_21.toInt ≤ 220 → l6_21.toInt + p2.toInt + 1 ≤ l7_21.toInt → (zHl v_held_21 v_end gbs l6_21.toInt l7_21.toInt p2.toInt (zg v_end (gbs + p2.toInt))) → ((-1) * l6_21.toInt + 2147483648).toNat < n_21 → w_X12_compileNode_21 p2 p3 v_sort v_value v_least v_most v_end Q x4 x10 v_labels v_tasks v_task v_taskA v_taskB n_21 l6_21 l7_21 v_held_21 := by
    intro n_21
    induction n_21 with
    | zero =>
      intro l6_21 l7_21 v_held_21 f4 f5 f6 u21_0 hm_21
      exfalso; omega
    | succ n_21 ih_21 =>
      intro l6_21 l7_21 v_held_21 f4 f5 f6 u21_0 hm_21
      unfold w_X12_compileNode_21
      unfold w_X12_compileNode_21B
      refine ⟨i_in (by omega) (by omega), ?_⟩
      intro x29 ex29
      have h29 := zg_at2 (k := gbs + p2.toInt) ex29 (by omega)
      have f7 : (p2.toInt + 1 ≤ x29.toInt ∧ x29.toInt ≤ 220) := by omega
      refine ⟨fun c30 => ?_, fun c30 => ?_⟩
      · have f8 : x29.toInt ≤ l7_21.toInt := i_le (a := x29.toInt) (b := l7_21.toInt) rfl rfl c30
        have hH9 := zHl_e u21_0 (by omega)
        refine ⟨i_in (by omega) (by omega), ?_⟩
        intro x66 ex66
        have h66 := zg_at2 (k := gbs + p2.toInt) ex66 (by omega)
        have f9 : (0 ≤ x66.toInt ∧ x66.toInt ≤ 11) := by omega
        have j_315 : ∀ (v_labels_315 : Int32) (v_tasks_315 : Int32) (v_task_315 : Nat → Int32) (v_taskA_315 : Nat → Int32) (v_taskB_315 : Nat → Int32), v_labels.toInt ≤ v_labels_315.toInt → v_tasks.toInt ≤ v_tasks_315.toInt → v_labels_315.toInt ≤ 2999 → v_tasks_315.toInt ≤ 5999 → (zWp v_sort v_value v_end v_act v_actA v_actB v_labelAt v_task_315 v_taskA_315 v_taskB_315 gZ gbs gn9 gfi v_acts.toInt v_labels_315.toInt v_tasks_315.toInt gC gsi (p2.toInt) gB1 gB2) → (zEQ gE gP v_task_315 v_taskA_315 v_tasks_315.toInt gB3) → w_X12_compileNode_315 Q v_labels_315 v_tasks_315 v_task_315 v_taskA_315 v_taskB_315 v_held_21 := by
          intro v_labels_315 v_tasks_315 v_task_315 v_taskA_315 v_taskB_315 f10 f11 f12 f13 u315_0 u315_1
          unfold w_X12_compileNode_315
          exact hq v_labels_315 v_tasks_315 v_task_315 v_taskA_315 v_taskB_315 v_held_21 (by omega) (by omega) (by omega) (by omega) (by exact u315_0) (by exact u315_1)
        refine ⟨fun c67_0 => ?_, fun c67_1 => ?_, fun c67_2 => ?_, fun c67_3 => ?_, fun c67_4 => ?_, fun c67_5 => ?_, fun c67_6 => ?_, fun c67_7 => ?_, fun c67_8 => ?_, ?_⟩
        · have f14 : x66.toInt = 3 := i_eq (a := x66.toInt) (b := 3) rfl rfl c67_0
          refine ok_X12_later (by omega) (by omega) (fun r120_0 r120_1 r120_2 r120_3 f15 u120_0 u120_1 u120_2 => ?_)
          exact j_315 v_labels r120_0 r120_1 r120_2 r120_3 (by omega) (by omega) (by omega) (by omega) (by first | exact zN_l u0 u120_0 u120_1 u120_2 (Or.inr (Or.inl (by decide))) rfl (by omega) (by omega) | exact zN_l u0 u130_0 u130_1 u130_2 (Or.inr (Or.inr ⟨by decide, by omega⟩)) rfl (by omega) (by omega) | exact zRo_e u0 hH9 u142_0 (by omega) (by omega) | exact zC_n u0 u173_0 u185_0 u185_1 u185_2 (by omega) (by omega) (by decide) (by decide) (by omega) | exact zC_f u0 u173_0 (by omega) (by omega) | exact u199_0 | exact u209_0 | exact zN_k u0 u226_0 u226_1 u226_2 u236_0 u236_1 u236_2 u250_0 u250_1 u250_2 (by omega) (by decide) (by decide) (by decide) (zg_at2 ex224 (by omega)) (by omega) (zg_at2 ex248 (by omega)) (by omega) (by omega) (by omega) | exact u260_0 | exact zN_t u0 u271_0 u271_1 u271_2 u281_0 u281_1 u281_2 u289_0 u289_1 u289_2 (by omega) (by decide) (by decide) (by decide) rfl (by omega) rfl (by omega) (by omega) (by omega) | exact zN_c u0 u302_0 u302_1 u302_2 (by decide) (by omega) (by omega) (by omega) | exact zN_l u0 u312_0 u312_1 u312_2 (Or.inl ⟨by decide, by omega⟩) rfl (by omega) (by omega)) (by first | exact zEQ_edge u0 u3 u120_0 u120_1 (Or.inl (by decide)) (by omega) (by omega) | exact zEr_e u0 u3 hH9 u142_1 (by omega) (by omega) | exact zEc_f u0 u3 u173_1 (by omega) | exact u199_1 | exact zEQ_cap u0 u3 u226_0 u226_1 u236_0 u236_1 u250_0 u250_1 ⟨by decide, by decide, by decide⟩ (by omega) (by omega) (by omega) (by omega) (by omega) (by omega) | exact zEQ_case u0 u3 u302_0 u302_1 (by decide) (by omega) (by omega) (by omega) (by omega) | exact zEQ_leaf u0 u3 u312_0 u312_1 (by decide) (by omega) (by omega) (by omega) | exact zEN_f u0 u3 (Or.inl (by omega)) | exact zEN_f u0 u3 (Or.inr (Or.inl (by omega))) | exact zEN_f u0 u3 (Or.inr (Or.inr (Or.inl (by omega)))) | exact zEN_f u0 u3 (Or.inr (Or.inr (Or.inr (by omega)))))
        · have f16 : x66.toInt = 4 := i_eq (a := x66.toInt) (b := 4) rfl rfl c67_1
          refine ok_X12_later (by omega) (by omega) (fun r130_0 r130_1 r130_2 r130_3 f17 u130_0 u130_1 u130_2 => ?_)
          exact j_315 v_labels r130_0 r130_1 r130_2 r130_3 (by omega) (by omega) (by omega) (by omega) (by first | exact zN_l u0 u120_0 u120_1 u120_2 (Or.inr (Or.inl (by decide))) rfl (by omega) (by omega) | exact zN_l u0 u130_0 u130_1 u130_2 (Or.inr (Or.inr ⟨by decide, by omega⟩)) rfl (by omega) (by omega) | exact zRo_e u0 hH9 u142_0 (by omega) (by omega) | exact zC_n u0 u173_0 u185_0 u185_1 u185_2 (by omega) (by omega) (by decide) (by decide) (by omega) | exact zC_f u0 u173_0 (by omega) (by omega) | exact u199_0 | exact u209_0 | exact zN_k u0 u226_0 u226_1 u226_2 u236_0 u236_1 u236_2 u250_0 u250_1 u250_2 (by omega) (by decide) (by decide) (by decide) (zg_at2 ex224 (by omega)) (by omega) (zg_at2 ex248 (by omega)) (by omega) (by omega) (by omega) | exact u260_0 | exact zN_t u0 u271_0 u271_1 u271_2 u281_0 u281_1 u281_2 u289_0 u289_1 u289_2 (by omega) (by decide) (by decide) (by decide) rfl (by omega) rfl (by omega) (by omega) (by omega) | exact zN_c u0 u302_0 u302_1 u302_2 (by decide) (by omega) (by omega) (by omega) | exact zN_l u0 u312_0 u312_1 u312_2 (Or.inl ⟨by decide, by omega⟩) rfl (by omega) (by omega)) (by first | exact zEQ_edge u0 u3 u120_0 u120_1 (Or.inl (by decide)) (by omega) (by omega) | exact zEr_e u0 u3 hH9 u142_1 (by omega) (by omega) | exact zEc_f u0 u3 u173_1 (by omega) | exact u199_1 | exact zEQ_cap u0 u3 u226_0 u226_1 u236_0 u236_1 u250_0 u250_1 ⟨by decide, by decide, by decide⟩ (by omega) (by omega) (by omega) (by omega) (by omega) (by omega) | exact zEQ_case u0 u3 u302_0 u302_1 (by decide) (by omega) (by omega) (by omega) (by omega) | exact zEQ_leaf u0 u3 u312_0 u312_1 (by decide) (by omega) (by omega) (by omega) | exact zEN_f u0 u3 (Or.inl (by omega)) | exact zEN_f u0 u3 (Or.inr (Or.inl (by omega))) | exact zEN_f u0 u3 (Or.inr (Or.inr (Or.inl (by omega)))) | exact zEN_f u0 u3 (Or.inr (Or.inr (Or.inr (by omega)))))
        · have f18 : x66.toInt = 5 := i_eq (a := x66.toInt) (b := 5) rfl rfl c67_2
          intro x139 ex139
          have f19 : x139.toInt = l6_21.toInt - 1 := i_sub (a := l6_21.toInt) (b := 1) ex139 rfl rfl (by omega) (by omega)
          have j_142 : ∀ n_142 : Nat, ∀ (l7_142 : Int32) (v_tasks_142 : Int32) (v_task_142 : Nat → Int32) (v_taskA_142 : Nat → Int32) (v_taskB_142 : Nat → Int32), l7_142.toInt ≤ x139.toInt → l7_142.toInt + v_tasks_142.toInt ≤ v_tasks.toInt + 220 → 0 ≤ l7_142.toInt + 1 → v_tasks.toInt ≤ v_tasks_142.toInt → (zRo v_sort v_value v_end v_act v_actA v_actB v_labelAt v_task_142 v_taskA_142 v_taskB_142 gZ gbs gn9 gfi v_acts.toInt v_labels.toInt v_tasks_142.toInt gC gL gsi gta gs0.1 (zhq v_held_21 l6_21.toInt (zg v_end (gbs + p2.toInt)) l7_142.toInt) (zg v_end (gbs + p2.toInt)) gB1 gB2) → (zEr gE gP v_end v_task_142 v_taskA_142 gbs v_tasks_142.toInt (p2.toInt) (zhq v_held_21 l6_21.toInt (zg v_end (gbs + p2.toInt)) l7_142.toInt) (zg v_end (gbs + p2.toInt)) gB3) → (l7_142.toInt + 2147483649).toNat < n_142 → w_X12_compileNode_142 Q v_labels v_held_21 n_142 l7_142 v_tasks_142 v_task_142 v_taskA_142 v_taskB_142 := by
            intro n_142
            induction n_142 with
            | zero =>
              intro l7_142 v_tasks_142 v_task_142 v_taskA_142 v_taskB_142 f20 f21 f22 f23 u142_0 u142_1 hm_142
              exfalso; omega
            | succ n_142 ih_142 =>
              intro l7_142 v_tasks_142 v_task_142 v_taskA_142 v_taskB_142 f20 f21 f22 f23 u142_0 u142_1 hm_142
              unfold w_X12_compileNode_142
              unfold w_X12_compileNode_142B
              refine ⟨fun c144 => ?_, fun c144 => ?_⟩
              · have f24 : l7_142.toInt < 0 := i_lt (a := l7_142.toInt) (b := 0) rfl rfl c144
                exact j_315 v_labels v_tasks_142 v_task_142 v_taskA_142 v_taskB_142 (by omega) (by omega) (by omega) (by omega) (by first | exact zN_l u0 u120_0 u120_1 u120_2 (Or.inr (Or.inl (by decide))) rfl (by omega) (by omega) | exact zN_l u0 u130_0 u130_1 u130_2 (Or.inr (Or.inr ⟨by decide, by omega⟩)) rfl (by omega) (by omega) | exact zRo_e u0 hH9 u142_0 (by omega) (by omega) | exact zC_n u0 u173_0 u185_0 u185_1 u185_2 (by omega) (by omega) (by decide) (by decide) (by omega) | exact zC_f u0 u173_0 (by omega) (by omega) | exact u199_0 | exact u209_0 | exact zN_k u0 u226_0 u226_1 u226_2 u236_0 u236_1 u236_2 u250_0 u250_1 u250_2 (by omega) (by decide) (by decide) (by decide) (zg_at2 ex224 (by omega)) (by omega) (zg_at2 ex248 (by omega)) (by omega) (by omega) (by omega) | exact u260_0 | exact zN_t u0 u271_0 u271_1 u271_2 u281_0 u281_1 u281_2 u289_0 u289_1 u289_2 (by omega) (by decide) (by decide) (by decide) rfl (by omega) rfl (by omega) (by omega) (by omega) | exact zN_c u0 u302_0 u302_1 u302_2 (by decide) (by omega) (by omega) (by omega) | exact zN_l u0 u312_0 u312_1 u312_2 (Or.inl ⟨by decide, by omega⟩) rfl (by omega) (by omega)) (by first | exact zEQ_edge u0 u3 u120_0 u120_1 (Or.inl (by decide)) (by omega) (by omega) | exact zEr_e u0 u3 hH9 u142_1 (by omega) (by omega) | exact zEc_f u0 u3 u173_1 (by omega) | exact u199_1 | exact zEQ_cap u0 u3 u226_0 u226_1 u236_0 u236_1 u250_0 u250_1 ⟨by decide, by decide, by decide⟩ (by omega) (by omega) (by omega) (by omega) (by omega) (by omega) | exact zEQ_case u0 u3 u302_0 u302_1 (by decide) (by omega) (by omega) (by omega) (by omega) | exact zEQ_leaf u0 u3 u312_0 u312_1 (by decide) (by omega) (by omega) (by omega) | exact zEN_f u0 u3 (Or.inl (by omega)) | exact zEN_f u0 u3 (Or.inr (Or.inl (by omega))) | exact zEN_f u0 u3 (Or.inr (Or.inr (Or.inl (by omega)))) | exact zEN_f u0 u3 (Or.inr (Or.inr (Or.inr (by omega)))))
              · have f25 : 0 ≤ l7_142.toInt := i_nlt (a := l7_142.toInt) (b := 0) rfl rfl c144
                refine ⟨i_in (by omega) (by omega), ?_⟩
                intro x156 ex156
                refine ok_X12_later (by omega) (by omega) (fun r158_0 r158_1 r158_2 r158_3 f26 u158_0 u158_1 u158_2 => ?_)
                intro x161 ex161
                have f27 : x161.toInt = l7_142.toInt + (-1) := i_add (a := l7_142.toInt) (b := (-1)) ex161 rfl rfl (by omega) (by omega)
                exact ih_142 x161 r158_0 r158_1 r158_2 r158_3  (by omega) (by omega) (by omega) (by omega) (by first | exact zRo_s u0 hH9 u142_0 u158_0 u158_1 u158_2 ex156 (by decide) (by omega) (by omega) (by omega) (by omega) | (rw [show zhq v_held_21 l6_21.toInt (zg v_end (gbs + p2.toInt)) _ = (zg v_end (gbs + p2.toInt)) from if_pos (by omega)]; exact zRo_0 u0)) (by first | exact zEr_s u0 u3 hH9 u142_1 u158_0 u158_1 ex156 (by decide) (by omega) (by omega) (by omega) (by omega) (by omega) | (rw [show zhq v_held_21 l6_21.toInt (zg v_end (gbs + p2.toInt)) _ = (zg v_end (gbs + p2.toInt)) from if_pos (by omega)]; exact zEr_0 u3)) (by have h8_0 := i_rng l7_142; have h8_1 := i_rng x161; omega)
          exact ⟨(x139.toInt + 2147483649).toNat + 1, j_142   ((x139.toInt + 2147483649).toNat + 1) x139 v_tasks v_task v_taskA v_taskB  (by omega) (by omega) (by omega) (by omega) (by first | exact zRo_s u0 hH9 u142_0 u158_0 u158_1 u158_2 ex156 (by decide) (by omega) (by omega) (by omega) (by omega) | (rw [show zhq v_held_21 l6_21.toInt (zg v_end (gbs + p2.toInt)) _ = (zg v_end (gbs + p2.toInt)) from if_pos (by omega)]; exact zRo_0 u0)) (by first | exact zEr_s u0 u3 hH9 u142_1 u158_0 u158_1 ex156 (by decide) (by omega) (by omega) (by omega) (by omega) (by omega) | (rw [show zhq v_held_21 l6_21.toInt (zg v_end (gbs + p2.toInt)) _ = (zg v_end (gbs + p2.toInt)) from if_pos (by omega)]; exact zEr_0 u3)) (by omega)⟩
        · have f28 : x66.toInt = 6 := i_eq (a := x66.toInt) (b := 6) rfl rfl c67_3
          have f29 : 1 ≤ l6_21.toInt := zN_6 u0 hH9 (by omega)
          refine ok_X12_compileChoice (gZ := gZ) (gC := gC) (gL := gL) (gsi := gsi) (gs0 := gs0) (gta := gta) (gbs := gbs) (gq9 := gq9) (gn9 := gn9) (gc9 := gc9) (gfi := gfi) (gB1 := gB1) (gB2 := gB2) (v_sort := v_sort) (v_value := v_value) (v_least := v_least) (v_most := v_most) (v_holder := v_holder) (v_parts := v_parts) (v_end := v_end) (v_firstPart := v_firstPart) (v_partBegin := v_partBegin) (v_partEnd := v_partEnd) (v_act := v_act) (v_actA := v_actA) (v_actB := v_actB) (v_labelAt := v_labelAt) (v_acts := v_acts) (gk := p2.toInt) (gP := gP) (gE := gE) (gB3 := gB3) (by omega) (by omega) (by omega) (by omega) (by omega) (by omega) (by exact u0) (by exact hH9) (by exact u3) (fun r173_0 r173_1 r173_2 r173_3 r173_4 f30 f31 f32 f33 f34 f35 f36 f37 f38 f39 f40 f41 f42 f43 f44 f45 f46 f47 f48 f49 u173_0 u173_1 => ?_)
          refine ⟨fun c177 => ?_, fun c177 => ?_⟩
          · have f50 : p3.toInt ≠ 0 := i_ne (a := p3.toInt) (b := 0) rfl rfl c177
            exact j_315 r173_0 r173_1 r173_2 r173_3 r173_4 (by omega) (by omega) (by omega) (by omega) (by first | exact zN_l u0 u120_0 u120_1 u120_2 (Or.inr (Or.inl (by decide))) rfl (by omega) (by omega) | exact zN_l u0 u130_0 u130_1 u130_2 (Or.inr (Or.inr ⟨by decide, by omega⟩)) rfl (by omega) (by omega) | exact zRo_e u0 hH9 u142_0 (by omega) (by omega) | exact zC_n u0 u173_0 u185_0 u185_1 u185_2 (by omega) (by omega) (by decide) (by decide) (by omega) | exact zC_f u0 u173_0 (by omega) (by omega) | exact u199_0 | exact u209_0 | exact zN_k u0 u226_0 u226_1 u226_2 u236_0 u236_1 u236_2 u250_0 u250_1 u250_2 (by omega) (by decide) (by decide) (by decide) (zg_at2 ex224 (by omega)) (by omega) (zg_at2 ex248 (by omega)) (by omega) (by omega) (by omega) | exact u260_0 | exact zN_t u0 u271_0 u271_1 u271_2 u281_0 u281_1 u281_2 u289_0 u289_1 u289_2 (by omega) (by decide) (by decide) (by decide) rfl (by omega) rfl (by omega) (by omega) (by omega) | exact zN_c u0 u302_0 u302_1 u302_2 (by decide) (by omega) (by omega) (by omega) | exact zN_l u0 u312_0 u312_1 u312_2 (Or.inl ⟨by decide, by omega⟩) rfl (by omega) (by omega)) (by first | exact zEQ_edge u0 u3 u120_0 u120_1 (Or.inl (by decide)) (by omega) (by omega) | exact zEr_e u0 u3 hH9 u142_1 (by omega) (by omega) | exact zEc_f u0 u3 u173_1 (by omega) | exact u199_1 | exact zEQ_cap u0 u3 u226_0 u226_1 u236_0 u236_1 u250_0 u250_1 ⟨by decide, by decide, by decide⟩ (by omega) (by omega) (by omega) (by omega) (by omega) (by omega) | exact zEQ_case u0 u3 u302_0 u302_1 (by decide) (by omega) (by omega) (by omega) (by omega) | exact zEQ_leaf u0 u3 u312_0 u312_1 (by decide) (by omega) (by omega) (by omega) | exact zEN_f u0 u3 (Or.inl (by omega)) | exact zEN_f u0 u3 (Or.inr (Or.inl (by omega))) | exact zEN_f u0 u3 (Or.inr (Or.inr (Or.inl (by omega)))) | exact zEN_f u0 u3 (Or.inr (Or.inr (Or.inr (by omega)))))
          · have f51 : p3.toInt = 0 := i_eq (a := p3.toInt) (b := 0) rfl rfl c177
            refine ok_X12_later (by omega) (by omega) (fun r185_0 r185_1 r185_2 r185_3 f52 u185_0 u185_1 u185_2 => ?_)
            exact j_315 r173_0 r185_0 r185_1 r185_2 r185_3 (by omega) (by omega) (by omega) (by omega) (by first | exact zN_l u0 u120_0 u120_1 u120_2 (Or.inr (Or.inl (by decide))) rfl (by omega) (by omega) | exact zN_l u0 u130_0 u130_1 u130_2 (Or.inr (Or.inr ⟨by decide, by omega⟩)) rfl (by omega) (by omega) | exact zRo_e u0 hH9 u142_0 (by omega) (by omega) | exact zC_n u0 u173_0 u185_0 u185_1 u185_2 (by omega) (by omega) (by decide) (by decide) (by omega) | exact zC_f u0 u173_0 (by omega) (by omega) | exact u199_0 | exact u209_0 | exact zN_k u0 u226_0 u226_1 u226_2 u236_0 u236_1 u236_2 u250_0 u250_1 u250_2 (by omega) (by decide) (by decide) (by decide) (zg_at2 ex224 (by omega)) (by omega) (zg_at2 ex248 (by omega)) (by omega) (by omega) (by omega) | exact u260_0 | exact zN_t u0 u271_0 u271_1 u271_2 u281_0 u281_1 u281_2 u289_0 u289_1 u289_2 (by omega) (by decide) (by decide) (by decide) rfl (by omega) rfl (by omega) (by omega) (by omega) | exact zN_c u0 u302_0 u302_1 u302_2 (by decide) (by omega) (by omega) (by omega) | exact zN_l u0 u312_0 u312_1 u312_2 (Or.inl ⟨by decide, by omega⟩) rfl (by omega) (by omega)) (by first | exact zEQ_edge u0 u3 u120_0 u120_1 (Or.inl (by decide)) (by omega) (by omega) | exact zEr_e u0 u3 hH9 u142_1 (by omega) (by omega) | exact zEc_f u0 u3 u173_1 (by omega) | exact u199_1 | exact zEQ_cap u0 u3 u226_0 u226_1 u236_0 u236_1 u250_0 u250_1 ⟨by decide, by decide, by decide⟩ (by omega) (by omega) (by omega) (by omega) (by omega) (by omega) | exact zEQ_case u0 u3 u302_0 u302_1 (by decide) (by omega) (by omega) (by omega) (by omega) | exact zEQ_leaf u0 u3 u312_0 u312_1 (by decide) (by omega) (by omega) (by omega) | exact zEN_f u0 u3 (Or.inl (by omega)) | exact zEN_f u0 u3 (Or.inr (Or.inl (by omega))) | exact zEN_f u0 u3 (Or.inr (Or.inr (Or.inl (by omega)))) | exact zEN_f u0 u3 (Or.inr (Or.inr (Or.inr (by omega)))))
        · have f53 : x66.toInt = 7 := i_eq (a := x66.toInt) (b := 7) rfl rfl c67_4
          refine ⟨fun c192 => ?_, fun c192 => ?_⟩
          · have f54 : p3.toInt = 0 := i_eq (a := p3.toInt) (b := 0) rfl rfl c192
            refine ok_X12_compileLoop (gZ := gZ) (gC := gC) (gL := gL) (gsi := gsi) (gs0 := gs0) (gta := gta) (gbs := gbs) (gq9 := gq9) (gn9 := gn9) (gc9 := gc9) (gfi := gfi) (gB1 := gB1) (gB2 := gB2) (v_sort := v_sort) (v_least := v_least) (v_most := v_most) (v_holder := v_holder) (v_parts := v_parts) (v_end := v_end) (v_firstPart := v_firstPart) (v_partBegin := v_partBegin) (v_partEnd := v_partEnd) (v_act := v_act) (v_actA := v_actA) (v_actB := v_actB) (v_labelAt := v_labelAt) (v_acts := v_acts) (by omega) (by omega) (by omega) (by omega) (by omega) (by omega) (by omega) (by omega) (by exact u0) (by omega) (by omega) (by omega) (fun r209_0 r209_1 r209_2 r209_3 r209_4 f55 f56 f57 f58 u209_0 => ?_)
            exact j_315 r209_0 r209_1 r209_2 r209_3 r209_4 (by omega) (by omega) (by omega) (by omega) (by first | exact zN_l u0 u120_0 u120_1 u120_2 (Or.inr (Or.inl (by decide))) rfl (by omega) (by omega) | exact zN_l u0 u130_0 u130_1 u130_2 (Or.inr (Or.inr ⟨by decide, by omega⟩)) rfl (by omega) (by omega) | exact zRo_e u0 hH9 u142_0 (by omega) (by omega) | exact zC_n u0 u173_0 u185_0 u185_1 u185_2 (by omega) (by omega) (by decide) (by decide) (by omega) | exact zC_f u0 u173_0 (by omega) (by omega) | exact u199_0 | exact u209_0 | exact zN_k u0 u226_0 u226_1 u226_2 u236_0 u236_1 u236_2 u250_0 u250_1 u250_2 (by omega) (by decide) (by decide) (by decide) (zg_at2 ex224 (by omega)) (by omega) (zg_at2 ex248 (by omega)) (by omega) (by omega) (by omega) | exact u260_0 | exact zN_t u0 u271_0 u271_1 u271_2 u281_0 u281_1 u281_2 u289_0 u289_1 u289_2 (by omega) (by decide) (by decide) (by decide) rfl (by omega) rfl (by omega) (by omega) (by omega) | exact zN_c u0 u302_0 u302_1 u302_2 (by decide) (by omega) (by omega) (by omega) | exact zN_l u0 u312_0 u312_1 u312_2 (Or.inl ⟨by decide, by omega⟩) rfl (by omega) (by omega)) (by first | exact zEQ_edge u0 u3 u120_0 u120_1 (Or.inl (by decide)) (by omega) (by omega) | exact zEr_e u0 u3 hH9 u142_1 (by omega) (by omega) | exact zEc_f u0 u3 u173_1 (by omega) | exact u199_1 | exact zEQ_cap u0 u3 u226_0 u226_1 u236_0 u236_1 u250_0 u250_1 ⟨by decide, by decide, by decide⟩ (by omega) (by omega) (by omega) (by omega) (by omega) (by omega) | exact zEQ_case u0 u3 u302_0 u302_1 (by decide) (by omega) (by omega) (by omega) (by omega) | exact zEQ_leaf u0 u3 u312_0 u312_1 (by decide) (by omega) (by omega) (by omega) | exact zEN_f u0 u3 (Or.inl (by omega)) | exact zEN_f u0 u3 (Or.inr (Or.inl (by omega))) | exact zEN_f u0 u3 (Or.inr (Or.inr (Or.inl (by omega)))) | exact zEN_f u0 u3 (Or.inr (Or.inr (Or.inr (by omega)))))
          · have f59 : p3.toInt ≠ 0 := i_ne (a := p3.toInt) (b := 0) rfl rfl c192
            refine ok_X12_compileCopies (gZ := gZ) (gC := gC) (gL := gL) (gsi := gsi) (gs0 := gs0) (gta := gta) (gbs := gbs) (gq9 := gq9) (gn9 := gn9) (gc9 := gc9) (gfi := gfi) (gB1 := gB1) (gB2 := gB2) (v_sort := v_sort) (v_holder := v_holder) (v_parts := v_parts) (v_end := v_end) (v_firstPart := v_firstPart) (v_partBegin := v_partBegin) (v_partEnd := v_partEnd) (v_act := v_act) (v_actA := v_actA) (v_actB := v_actB) (v_labelAt := v_labelAt) (v_acts := v_acts) (gP := gP) (gE := gE) (gB3 := gB3) (by omega) (by omega) (by omega) (by omega) (by omega) (by omega) (by omega) (by omega) (by exact u0) (by omega) (by omega) (by omega) (by exact u3) (fun r199_0 r199_1 r199_2 r199_3 r199_4 f60 f61 f62 f63 f64 f65 f66 f67 f68 f69 u199_0 u199_1 => ?_)
            exact j_315 r199_0 r199_1 r199_2 r199_3 r199_4 (by omega) (by omega) (by omega) (by omega) (by first | exact zN_l u0 u120_0 u120_1 u120_2 (Or.inr (Or.inl (by decide))) rfl (by omega) (by omega) | exact zN_l u0 u130_0 u130_1 u130_2 (Or.inr (Or.inr ⟨by decide, by omega⟩)) rfl (by omega) (by omega) | exact zRo_e u0 hH9 u142_0 (by omega) (by omega) | exact zC_n u0 u173_0 u185_0 u185_1 u185_2 (by omega) (by omega) (by decide) (by decide) (by omega) | exact zC_f u0 u173_0 (by omega) (by omega) | exact u199_0 | exact u209_0 | exact zN_k u0 u226_0 u226_1 u226_2 u236_0 u236_1 u236_2 u250_0 u250_1 u250_2 (by omega) (by decide) (by decide) (by decide) (zg_at2 ex224 (by omega)) (by omega) (zg_at2 ex248 (by omega)) (by omega) (by omega) (by omega) | exact u260_0 | exact zN_t u0 u271_0 u271_1 u271_2 u281_0 u281_1 u281_2 u289_0 u289_1 u289_2 (by omega) (by decide) (by decide) (by decide) rfl (by omega) rfl (by omega) (by omega) (by omega) | exact zN_c u0 u302_0 u302_1 u302_2 (by decide) (by omega) (by omega) (by omega) | exact zN_l u0 u312_0 u312_1 u312_2 (Or.inl ⟨by decide, by omega⟩) rfl (by omega) (by omega)) (by first | exact zEQ_edge u0 u3 u120_0 u120_1 (Or.inl (by decide)) (by omega) (by omega) | exact zEr_e u0 u3 hH9 u142_1 (by omega) (by omega) | exact zEc_f u0 u3 u173_1 (by omega) | exact u199_1 | exact zEQ_cap u0 u3 u226_0 u226_1 u236_0 u236_1 u250_0 u250_1 ⟨by decide, by decide, by decide⟩ (by omega) (by omega) (by omega) (by omega) (by omega) (by omega) | exact zEQ_case u0 u3 u302_0 u302_1 (by decide) (by omega) (by omega) (by omega) (by omega) | exact zEQ_leaf u0 u3 u312_0 u312_1 (by decide) (by omega) (by omega) (by omega) | exact zEN_f u0 u3 (Or.inl (by omega)) | exact zEN_f u0 u3 (Or.inr (Or.inl (by omega))) | exact zEN_f u0 u3 (Or.inr (Or.inr (Or.inl (by omega)))) | exact zEN_f u0 u3 (Or.inr (Or.inr (Or.inr (by omega)))))
        · have f70 : x66.toInt = 8 := i_eq (a := x66.toInt) (b := 8) rfl rfl c67_5
          refine ⟨i_in (by omega) (by omega), ?_⟩
          intro x224 ex224
          refine ok_X12_later (by omega) (by omega) (fun r226_0 r226_1 r226_2 r226_3 f71 u226_0 u226_1 u226_2 => ?_)
          intro x234 ex234
          have f72 : x234.toInt = p2.toInt + 1 := i_add (a := p2.toInt) (b := 1) ex234 rfl rfl (by omega) (by omega)
          refine ok_X12_later (by omega) (by omega) (fun r236_0 r236_1 r236_2 r236_3 f73 u236_0 u236_1 u236_2 => ?_)
          refine ⟨i_in (by omega) (by omega), ?_⟩
          intro x248 ex248
          have f74 : x248.toInt = x224.toInt := congrArg Int32.toInt (ex248.trans ex224.symm)
          refine ok_X12_later (by omega) (by omega) (fun r250_0 r250_1 r250_2 r250_3 f75 u250_0 u250_1 u250_2 => ?_)
          exact j_315 v_labels r250_0 r250_1 r250_2 r250_3 (by omega) (by omega) (by omega) (by omega) (by first | exact zN_l u0 u120_0 u120_1 u120_2 (Or.inr (Or.inl (by decide))) rfl (by omega) (by omega) | exact zN_l u0 u130_0 u130_1 u130_2 (Or.inr (Or.inr ⟨by decide, by omega⟩)) rfl (by omega) (by omega) | exact zRo_e u0 hH9 u142_0 (by omega) (by omega) | exact zC_n u0 u173_0 u185_0 u185_1 u185_2 (by omega) (by omega) (by decide) (by decide) (by omega) | exact zC_f u0 u173_0 (by omega) (by omega) | exact u199_0 | exact u209_0 | exact zN_k u0 u226_0 u226_1 u226_2 u236_0 u236_1 u236_2 u250_0 u250_1 u250_2 (by omega) (by decide) (by decide) (by decide) (zg_at2 ex224 (by omega)) (by omega) (zg_at2 ex248 (by omega)) (by omega) (by omega) (by omega) | exact u260_0 | exact zN_t u0 u271_0 u271_1 u271_2 u281_0 u281_1 u281_2 u289_0 u289_1 u289_2 (by omega) (by decide) (by decide) (by decide) rfl (by omega) rfl (by omega) (by omega) (by omega) | exact zN_c u0 u302_0 u302_1 u302_2 (by decide) (by omega) (by omega) (by omega) | exact zN_l u0 u312_0 u312_1 u312_2 (Or.inl ⟨by decide, by omega⟩) rfl (by omega) (by omega)) (by first | exact zEQ_edge u0 u3 u120_0 u120_1 (Or.inl (by decide)) (by omega) (by omega) | exact zEr_e u0 u3 hH9 u142_1 (by omega) (by omega) | exact zEc_f u0 u3 u173_1 (by omega) | exact u199_1 | exact zEQ_cap u0 u3 u226_0 u226_1 u236_0 u236_1 u250_0 u250_1 ⟨by decide, by decide, by decide⟩ (by omega) (by omega) (by omega) (by omega) (by omega) (by omega) | exact zEQ_case u0 u3 u302_0 u302_1 (by decide) (by omega) (by omega) (by omega) (by omega) | exact zEQ_leaf u0 u3 u312_0 u312_1 (by decide) (by omega) (by omega) (by omega) | exact zEN_f u0 u3 (Or.inl (by omega)) | exact zEN_f u0 u3 (Or.inr (Or.inl (by omega))) | exact zEN_f u0 u3 (Or.inr (Or.inr (Or.inl (by omega)))) | exact zEN_f u0 u3 (Or.inr (Or.inr (Or.inr (by omega)))))
        · have f76 : x66.toInt = 9 := i_eq (a := x66.toInt) (b := 9) rfl rfl c67_6
          refine ok_X12_compileLook (gZ := gZ) (gC := gC) (gL := gL) (gsi := gsi) (gs0 := gs0) (gta := gta) (gbs := gbs) (gq9 := gq9) (gn9 := gn9) (gc9 := gc9) (gfi := gfi) (gB1 := gB1) (gB2 := gB2) (v_sort := v_sort) (v_least := v_least) (v_most := v_most) (v_holder := v_holder) (v_parts := v_parts) (v_end := v_end) (v_firstPart := v_firstPart) (v_partBegin := v_partBegin) (v_partEnd := v_partEnd) (v_act := v_act) (v_actA := v_actA) (v_actB := v_actB) (v_labelAt := v_labelAt) (v_acts := v_acts) (by omega) (by omega) (by omega) (by omega) (by omega) (by omega) (by omega) (by omega) (by exact u0) (by omega) (fun r260_0 r260_1 r260_2 r260_3 r260_4 f77 f78 u260_0 => ?_)
          exact j_315 r260_0 r260_1 r260_2 r260_3 r260_4 (by omega) (by omega) (by omega) (by omega) (by first | exact zN_l u0 u120_0 u120_1 u120_2 (Or.inr (Or.inl (by decide))) rfl (by omega) (by omega) | exact zN_l u0 u130_0 u130_1 u130_2 (Or.inr (Or.inr ⟨by decide, by omega⟩)) rfl (by omega) (by omega) | exact zRo_e u0 hH9 u142_0 (by omega) (by omega) | exact zC_n u0 u173_0 u185_0 u185_1 u185_2 (by omega) (by omega) (by decide) (by decide) (by omega) | exact zC_f u0 u173_0 (by omega) (by omega) | exact u199_0 | exact u209_0 | exact zN_k u0 u226_0 u226_1 u226_2 u236_0 u236_1 u236_2 u250_0 u250_1 u250_2 (by omega) (by decide) (by decide) (by decide) (zg_at2 ex224 (by omega)) (by omega) (zg_at2 ex248 (by omega)) (by omega) (by omega) (by omega) | exact u260_0 | exact zN_t u0 u271_0 u271_1 u271_2 u281_0 u281_1 u281_2 u289_0 u289_1 u289_2 (by omega) (by decide) (by decide) (by decide) rfl (by omega) rfl (by omega) (by omega) (by omega) | exact zN_c u0 u302_0 u302_1 u302_2 (by decide) (by omega) (by omega) (by omega) | exact zN_l u0 u312_0 u312_1 u312_2 (Or.inl ⟨by decide, by omega⟩) rfl (by omega) (by omega)) (by first | exact zEQ_edge u0 u3 u120_0 u120_1 (Or.inl (by decide)) (by omega) (by omega) | exact zEr_e u0 u3 hH9 u142_1 (by omega) (by omega) | exact zEc_f u0 u3 u173_1 (by omega) | exact u199_1 | exact zEQ_cap u0 u3 u226_0 u226_1 u236_0 u236_1 u250_0 u250_1 ⟨by decide, by decide, by decide⟩ (by omega) (by omega) (by omega) (by omega) (by omega) (by omega) | exact zEQ_case u0 u3 u302_0 u302_1 (by decide) (by omega) (by omega) (by omega) (by omega) | exact zEQ_leaf u0 u3 u312_0 u312_1 (by decide) (by omega) (by omega) (by omega) | exact zEN_f u0 u3 (Or.inl (by omega)) | exact zEN_f u0 u3 (Or.inr (Or.inl (by omega))) | exact zEN_f u0 u3 (Or.inr (Or.inr (Or.inl (by omega)))) | exact zEN_f u0 u3 (Or.inr (Or.inr (Or.inr (by omega)))))
        · have f79 : x66.toInt = 10 := i_eq (a := x66.toInt) (b := 10) rfl rfl c67_7
          refine ok_X12_later (by omega) (by omega) (fun r271_0 r271_1 r271_2 r271_3 f80 u271_0 u271_1 u271_2 => ?_)
          intro x279 ex279
          have f81 : x279.toInt = p2.toInt + 1 := i_add (a := p2.toInt) (b := 1) ex279 rfl rfl (by omega) (by omega)
          refine ok_X12_later (by omega) (by omega) (fun r281_0 r281_1 r281_2 r281_3 f82 u281_0 u281_1 u281_2 => ?_)
          refine ok_X12_later (by omega) (by omega) (fun r289_0 r289_1 r289_2 r289_3 f83 u289_0 u289_1 u289_2 => ?_)
          exact j_315 v_labels r289_0 r289_1 r289_2 r289_3 (by omega) (by omega) (by omega) (by omega) (by first | exact zN_l u0 u120_0 u120_1 u120_2 (Or.inr (Or.inl (by decide))) rfl (by omega) (by omega) | exact zN_l u0 u130_0 u130_1 u130_2 (Or.inr (Or.inr ⟨by decide, by omega⟩)) rfl (by omega) (by omega) | exact zRo_e u0 hH9 u142_0 (by omega) (by omega) | exact zC_n u0 u173_0 u185_0 u185_1 u185_2 (by omega) (by omega) (by decide) (by decide) (by omega) | exact zC_f u0 u173_0 (by omega) (by omega) | exact u199_0 | exact u209_0 | exact zN_k u0 u226_0 u226_1 u226_2 u236_0 u236_1 u236_2 u250_0 u250_1 u250_2 (by omega) (by decide) (by decide) (by decide) (zg_at2 ex224 (by omega)) (by omega) (zg_at2 ex248 (by omega)) (by omega) (by omega) (by omega) | exact u260_0 | exact zN_t u0 u271_0 u271_1 u271_2 u281_0 u281_1 u281_2 u289_0 u289_1 u289_2 (by omega) (by decide) (by decide) (by decide) rfl (by omega) rfl (by omega) (by omega) (by omega) | exact zN_c u0 u302_0 u302_1 u302_2 (by decide) (by omega) (by omega) (by omega) | exact zN_l u0 u312_0 u312_1 u312_2 (Or.inl ⟨by decide, by omega⟩) rfl (by omega) (by omega)) (by first | exact zEQ_edge u0 u3 u120_0 u120_1 (Or.inl (by decide)) (by omega) (by omega) | exact zEr_e u0 u3 hH9 u142_1 (by omega) (by omega) | exact zEc_f u0 u3 u173_1 (by omega) | exact u199_1 | exact zEQ_cap u0 u3 u226_0 u226_1 u236_0 u236_1 u250_0 u250_1 ⟨by decide, by decide, by decide⟩ (by omega) (by omega) (by omega) (by omega) (by omega) (by omega) | exact zEQ_case u0 u3 u302_0 u302_1 (by decide) (by omega) (by omega) (by omega) (by omega) | exact zEQ_leaf u0 u3 u312_0 u312_1 (by decide) (by omega) (by omega) (by omega) | exact zEN_f u0 u3 (Or.inl (by omega)) | exact zEN_f u0 u3 (Or.inr (Or.inl (by omega))) | exact zEN_f u0 u3 (Or.inr (Or.inr (Or.inl (by omega)))) | exact zEN_f u0 u3 (Or.inr (Or.inr (Or.inr (by omega)))))
        · have f84 : x66.toInt = 11 := i_eq (a := x66.toInt) (b := 11) rfl rfl c67_8
          intro x300 ex300
          have f85 : x300.toInt = p2.toInt + 1 := i_add (a := p2.toInt) (b := 1) ex300 rfl rfl (by omega) (by omega)
          refine ok_X12_later (by omega) (by omega) (fun r302_0 r302_1 r302_2 r302_3 f86 u302_0 u302_1 u302_2 => ?_)
          exact j_315 v_labels r302_0 r302_1 r302_2 r302_3 (by omega) (by omega) (by omega) (by omega) (by first | exact zN_l u0 u120_0 u120_1 u120_2 (Or.inr (Or.inl (by decide))) rfl (by omega) (by omega) | exact zN_l u0 u130_0 u130_1 u130_2 (Or.inr (Or.inr ⟨by decide, by omega⟩)) rfl (by omega) (by omega) | exact zRo_e u0 hH9 u142_0 (by omega) (by omega) | exact zC_n u0 u173_0 u185_0 u185_1 u185_2 (by omega) (by omega) (by decide) (by decide) (by omega) | exact zC_f u0 u173_0 (by omega) (by omega) | exact u199_0 | exact u209_0 | exact zN_k u0 u226_0 u226_1 u226_2 u236_0 u236_1 u236_2 u250_0 u250_1 u250_2 (by omega) (by decide) (by decide) (by decide) (zg_at2 ex224 (by omega)) (by omega) (zg_at2 ex248 (by omega)) (by omega) (by omega) (by omega) | exact u260_0 | exact zN_t u0 u271_0 u271_1 u271_2 u281_0 u281_1 u281_2 u289_0 u289_1 u289_2 (by omega) (by decide) (by decide) (by decide) rfl (by omega) rfl (by omega) (by omega) (by omega) | exact zN_c u0 u302_0 u302_1 u302_2 (by decide) (by omega) (by omega) (by omega) | exact zN_l u0 u312_0 u312_1 u312_2 (Or.inl ⟨by decide, by omega⟩) rfl (by omega) (by omega)) (by first | exact zEQ_edge u0 u3 u120_0 u120_1 (Or.inl (by decide)) (by omega) (by omega) | exact zEr_e u0 u3 hH9 u142_1 (by omega) (by omega) | exact zEc_f u0 u3 u173_1 (by omega) | exact u199_1 | exact zEQ_cap u0 u3 u226_0 u226_1 u236_0 u236_1 u250_0 u250_1 ⟨by decide, by decide, by decide⟩ (by omega) (by omega) (by omega) (by omega) (by omega) (by omega) | exact zEQ_case u0 u3 u302_0 u302_1 (by decide) (by omega) (by omega) (by omega) (by omega) | exact zEQ_leaf u0 u3 u312_0 u312_1 (by decide) (by omega) (by omega) (by omega) | exact zEN_f u0 u3 (Or.inl (by omega)) | exact zEN_f u0 u3 (Or.inr (Or.inl (by omega))) | exact zEN_f u0 u3 (Or.inr (Or.inr (Or.inl (by omega)))) | exact zEN_f u0 u3 (Or.inr (Or.inr (Or.inr (by omega)))))
        · intro c67_0 c67_1 c67_2 c67_3 c67_4 c67_5 c67_6 c67_7 c67_8
          have f87 : x66.toInt ≠ 3 := i_ne (a := x66.toInt) (b := 3) rfl rfl c67_0
          have f88 : x66.toInt ≠ 4 := i_ne (a := x66.toInt) (b := 4) rfl rfl c67_1
          have f89 : x66.toInt ≠ 5 := i_ne (a := x66.toInt) (b := 5) rfl rfl c67_2
          have f90 : x66.toInt ≠ 6 := i_ne (a := x66.toInt) (b := 6) rfl rfl c67_3
          have f91 : x66.toInt ≠ 7 := i_ne (a := x66.toInt) (b := 7) rfl rfl c67_4
          have f92 : x66.toInt ≠ 8 := i_ne (a := x66.toInt) (b := 8) rfl rfl c67_5
          have f93 : x66.toInt ≠ 9 := i_ne (a := x66.toInt) (b := 9) rfl rfl c67_6
          have f94 : x66.toInt ≠ 10 := i_ne (a := x66.toInt) (b := 10) rfl rfl c67_7
          have f95 : x66.toInt ≠ 11 := i_ne (a := x66.toInt) (b := 11) rfl rfl c67_8
          refine ok_X12_later (by omega) (by omega) (fun r312_0 r312_1 r312_2 r312_3 f96 u312_0 u312_1 u312_2 => ?_)
          exact j_315 v_labels r312_0 r312_1 r312_2 r312_3 (by omega) (by omega) (by omega) (by omega) (by first | exact zN_l u0 u120_0 u120_1 u120_2 (Or.inr (Or.inl (by decide))) rfl (by omega) (by omega) | exact zN_l u0 u130_0 u130_1 u130_2 (Or.inr (Or.inr ⟨by decide, by omega⟩)) rfl (by omega) (by omega) | exact zRo_e u0 hH9 u142_0 (by omega) (by omega) | exact zC_n u0 u173_0 u185_0 u185_1 u185_2 (by omega) (by omega) (by decide) (by decide) (by omega) | exact zC_f u0 u173_0 (by omega) (by omega) | exact u199_0 | exact u209_0 | exact zN_k u0 u226_0 u226_1 u226_2 u236_0 u236_1 u236_2 u250_0 u250_1 u250_2 (by omega) (by decide) (by decide) (by decide) (zg_at2 ex224 (by omega)) (by omega) (zg_at2 ex248 (by omega)) (by omega) (by omega) (by omega) | exact u260_0 | exact zN_t u0 u271_0 u271_1 u271_2 u281_0 u281_1 u281_2 u289_0 u289_1 u289_2 (by omega) (by decide) (by decide) (by decide) rfl (by omega) rfl (by omega) (by omega) (by omega) | exact zN_c u0 u302_0 u302_1 u302_2 (by decide) (by omega) (by omega) (by omega) | exact zN_l u0 u312_0 u312_1 u312_2 (Or.inl ⟨by decide, by omega⟩) rfl (by omega) (by omega)) (by first | exact zEQ_edge u0 u3 u120_0 u120_1 (Or.inl (by decide)) (by omega) (by omega) | exact zEr_e u0 u3 hH9 u142_1 (by omega) (by omega) | exact zEc_f u0 u3 u173_1 (by omega) | exact u199_1 | exact zEQ_cap u0 u3 u226_0 u226_1 u236_0 u236_1 u250_0 u250_1 ⟨by decide, by decide, by decide⟩ (by omega) (by omega) (by omega) (by omega) (by omega) (by omega) | exact zEQ_case u0 u3 u302_0 u302_1 (by decide) (by omega) (by omega) (by omega) (by omega) | exact zEQ_leaf u0 u3 u312_0 u312_1 (by decide) (by omega) (by omega) (by omega) | exact zEN_f u0 u3 (Or.inl (by omega)) | exact zEN_f u0 u3 (Or.inr (Or.inl (by omega))) | exact zEN_f u0 u3 (Or.inr (Or.inr (Or.inl (by omega)))) | exact zEN_f u0 u3 (Or.inr (Or.inr (Or.inr (by omega)))))
      · have f97 : l7_21.toInt < x29.toInt := i_nle (a := x29.toInt) (b := l7_21.toInt) rfl rfl c30
        refine ⟨i_in (by omega) (by omega), ?_⟩
        intro g41 eg41
        intro x42 ex42
        have f98 : x42.toInt = l6_21.toInt + 1 := i_add (a := l6_21.toInt) (b := 1) ex42 rfl rfl (by omega) (by omega)
        intro x53 ex53
        have f99 : x53.toInt = x4.toInt + l7_21.toInt := i_add (a := x4.toInt) (b := l7_21.toInt) ex53 rfl rfl (by omega) (by omega)
        refine ⟨i_in (by omega) (by omega), ?_⟩
        intro x54 ex54
        have hs9 := zHl_s (x' := x42.toInt) u0 u21_0 eg41 ex54 (by omega) (by omega) (by omega)
        have f100 : (l7_21.toInt + 1 ≤ x54.toInt ∧ x54.toInt ≤ 220) := by have h9 := hs9.2; have h8 := hs9.1.2.2.2.2; omega
        exact ih_21 x42 x54 g41  (by omega) (by omega) (by omega) (by first | exact hs9.1 | exact zHl_0 u0 rfl (by omega)) (by have h8_0 := i_rng l6_21; have h8_1 := i_rng x42; omega)
  exact ⟨(2147483648 : Int).toNat + 1, j_21   ((2147483648 : Int).toNat + 1) 0 x18 v_held  (by omega) (by omega) (by omega) (by first | exact hs9.1 | exact zHl_0 u0 rfl (by omega)) (by omega)⟩
set_option maxHeartbeats 4000000 in
theorem ok_X12_compile {p1 : Int32} {p2 : Int32} {v_sort : Nat → Int32} {v_value : Nat → Int32} {v_least : Nat → Int32} {v_most : Nat → Int32} {v_end : Nat → Int32} {v_act : Nat → Int32} {v_actA : Nat → Int32} {v_actB : Nat → Int32} {v_labelAt : Nat → Int32} {v_task : Nat → Int32} {v_taskA : Nat → Int32} {v_taskB : Nat → Int32} {v_held : Nat → Int32} {gZ : Int → Int} {gfi : Int} {v_holder : Nat → Int32} {v_parts : Nat → Int32} {v_firstPart : Nat → Int32} {v_partBegin : Nat → Int32} {v_partEnd : Nat → Int32} {v_acts : Int32} {v_labels : Int32} {v_tasks : Int32} {v_many : Nat → Int32} {v_captures : Nat → Int32} {gP : Int → Int} {gE : Int} {Q : Int32 → Int32 → Int32 → (Nat → Int32) → (Nat → Int32) → (Nat → Int32) → (Nat → Int32) → (Nat → Int32) → (Nat → Int32) → (Nat → Int32) → (Nat → Int32) → Prop} (a0 : 0 ≤ p2.toInt) (a1 : p2.toInt ≤ 1) (a2 : 0 ≤ p1.toInt) (a3 : p1.toInt ≤ 5) (u0 : zSl v_sort v_value v_least v_most v_holder v_parts v_end v_firstPart v_partBegin v_partEnd (220 * p1.toInt) (420 * p1.toInt) (zg v_many p1.toInt) (zg v_captures p1.toInt)) (u1 : zZ v_sort v_least v_most v_end (220 * p1.toInt) (zg v_many p1.toInt) gfi gZ) (u2 : gZ 0 ≤ 220) (u3 : (gfi = 1 ∧ p2.toInt ≠ 0) ∨ (gfi = 0 ∧ p2.toInt = 0)) (u4 : gfi = 1 → zKb v_sort (220 * p1.toInt) (zg v_many p1.toInt) ∧ gZ 0 ≤ 200) (u5 : gE = 1 → (gfi = 1 ∧ zY v_sort v_least v_most v_end (220 * p1.toInt) (zg v_many p1.toInt) gP ∧ gP 0 ≤ 60)) (hq : ∀ (ov_acts : Int32) (ov_labels : Int32) (ov_tasks : Int32) (ov_act : Nat → Int32) (ov_actA : Nat → Int32) (ov_actB : Nat → Int32) (ov_labelAt : Nat → Int32) (ov_task : Nat → Int32) (ov_taskA : Nat → Int32) (ov_taskB : Nat → Int32) (ov_held : Nat → Int32), 0 ≤ ov_acts.toInt + 1 → 0 ≤ ov_acts.toInt → 0 ≤ ov_labels.toInt + 1 → 0 ≤ ov_labels.toInt → 0 ≤ ov_tasks.toInt + 1 → 0 ≤ ov_tasks.toInt → ov_acts.toInt ≤ 2700 → ov_tasks.toInt ≤ 0 → (zCo v_sort v_value ov_act ov_actA ov_actB ov_labelAt (220 * p1.toInt) (zg v_many p1.toInt) gfi ov_acts.toInt) → (gE = 1 → zcE ov_act ov_acts.toInt ≤ gP 0) → Q ov_acts ov_labels ov_tasks ov_act ov_actA ov_actB ov_labelAt ov_task ov_taskA ov_taskB ov_held) : w_X12_compile p1 p2 v_sort v_value v_least v_most v_end v_act v_actA v_actB v_labelAt v_task v_taskA v_taskB v_held Q := by
  have q_t : (bz true).toInt = 1 := rfl
  have q_f : (bz false).toInt = 0 := rfl
  have q_0 : (0 : Int32).toInt = 0 := rfl
  have q_19 : (19 : Int32).toInt = 19 := rfl
  have q_100 : (100 : Int32).toInt = 100 := rfl
  unfold w_X12_compile
  refine ok_X12_later (by omega) (by omega) (fun r20_0 r20_1 r20_2 r20_3 f1 u20_0 u20_1 u20_2 => ?_)
  refine ok_X12_later (by omega) (by omega) (fun r28_0 r28_1 r28_2 r28_3 f2 u28_0 u28_1 u28_2 => ?_)
  have j_31 : ∀ n_31 : Nat, ∀ (v_acts_31 : Int32) (v_labels_31 : Int32) (v_tasks_31 : Int32) (v_act_31 : Nat → Int32) (v_actA_31 : Nat → Int32) (v_actB_31 : Nat → Int32) (v_labelAt_31 : Nat → Int32) (v_task_31 : Nat → Int32) (v_taskA_31 : Nat → Int32) (v_taskB_31 : Nat → Int32) (v_held_31 : Nat → Int32) (gm_31 : Int), 0 ≤ v_tasks_31.toInt → 0 ≤ v_acts_31.toInt → 0 ≤ v_labels_31.toInt → v_acts_31.toInt ≤ 2700 → (zCS v_sort v_value v_end v_act_31 v_actA_31 v_actB_31 v_labelAt_31 v_task_31 v_taskA_31 v_taskB_31 gZ (220 * p1.toInt) (zg v_many p1.toInt) gfi v_acts_31.toInt v_labels_31.toInt v_tasks_31.toInt gm_31) → (zEC gE gP v_act_31 v_task_31 v_taskA_31 v_acts_31.toInt v_tasks_31.toInt) → (gm_31).toNat < n_31 → w_X12_compile_31 p1 p2 v_sort v_value v_least v_most v_end Q n_31 v_acts_31 v_labels_31 v_tasks_31 v_act_31 v_actA_31 v_actB_31 v_labelAt_31 v_task_31 v_taskA_31 v_taskB_31 v_held_31 := by
    intro n_31
    induction n_31 with
    | zero =>
      intro v_acts_31 v_labels_31 v_tasks_31 v_act_31 v_actA_31 v_actB_31 v_labelAt_31 v_task_31 v_taskA_31 v_taskB_31 v_held_31 gm_31 f3 f4 f5 f6 u31_0 u31_1 hm_31
      exfalso; omega
    | succ n_31 ih_31 =>
      intro v_acts_31 v_labels_31 v_tasks_31 v_act_31 v_actA_31 v_actB_31 v_labelAt_31 v_task_31 v_taskA_31 v_taskB_31 v_held_31 gm_31 f3 f4 f5 f6 u31_0 u31_1 hm_31
      unfold w_X12_compile_31
      unfold w_X12_compile_31B
      refine ⟨fun c35 => ?_, fun c35 => ?_⟩
      · have f7 : v_tasks_31.toInt ≤ 0 := i_le (a := v_tasks_31.toInt) (b := 0) rfl rfl c35
        exact hq v_acts_31 v_labels_31 v_tasks_31 v_act_31 v_actA_31 v_actB_31 v_labelAt_31 v_task_31 v_taskA_31 v_taskB_31 v_held_31 (by omega) (by omega) (by omega) (by omega) (by omega) (by omega) (by omega) (by omega) (by exact zCS_e u31_0 (by omega)) (by exact zEC_e u31_1 (by omega))
      · have f8 : 0 < v_tasks_31.toInt := i_nle (a := v_tasks_31.toInt) (b := 0) rfl rfl c35
        have hb9 := zCS_b u31_0 u0 u1 (by omega)
        obtain ⟨hb1, hb2, hb3, hb4, hb5⟩ := hb9
        have f9 : (0 ≤ v_acts_31.toInt ∧ v_acts_31.toInt ≤ 2650) := by omega
        have f10 : (0 ≤ v_labels_31.toInt ∧ v_labels_31.toInt ≤ 2650) := by omega
        have f11 : v_tasks_31.toInt ≤ 2650 := by omega
        intro x44 ex44
        have f12 : x44.toInt = v_tasks_31.toInt - 1 := i_sub (a := v_tasks_31.toInt) (b := 1) ex44 rfl rfl (by omega) (by omega)
        refine ⟨i_in (by omega) (by omega), ?_⟩
        intro x56 ex56
        have h56 := zg_at2 (k := v_tasks_31.toInt - 1) ex56 (by omega)
        refine ⟨i_in (by omega) (by omega), ?_⟩
        intro x66 ex66
        have h66 := zg_at2 (k := v_tasks_31.toInt - 1) ex66 (by omega)
        have j_155 : ∀ (v_acts_155 : Int32) (v_labels_155 : Int32) (v_tasks_155 : Int32) (v_act_155 : Nat → Int32) (v_actA_155 : Nat → Int32) (v_actB_155 : Nat → Int32) (v_labelAt_155 : Nat → Int32) (v_task_155 : Nat → Int32) (v_taskA_155 : Nat → Int32) (v_taskB_155 : Nat → Int32) (v_held_155 : Nat → Int32), v_acts_31.toInt ≤ v_acts_155.toInt → v_acts_155.toInt ≤ v_acts_31.toInt + 1 → v_labels_31.toInt ≤ v_labels_155.toInt → v_tasks_31.toInt ≤ v_tasks_155.toInt + 1 → v_labels_155.toInt ≤ 2999 → v_tasks_155.toInt ≤ 5999 → (zCS v_sort v_value v_end v_act_155 v_actA_155 v_actB_155 v_labelAt_155 v_task_155 v_taskA_155 v_taskB_155 gZ (220 * p1.toInt) (zg v_many p1.toInt) gfi v_acts_155.toInt v_labels_155.toInt v_tasks_155.toInt (gm_31 - 1)) → (zEC gE gP v_act_155 v_task_155 v_taskA_155 v_acts_155.toInt v_tasks_155.toInt) → w_X12_compile_155 Q (w_X12_compile_31 p1 p2 v_sort v_value v_least v_most v_end Q n_31) v_acts_155 v_labels_155 v_tasks_155 v_act_155 v_actA_155 v_actB_155 v_labelAt_155 v_task_155 v_taskA_155 v_taskB_155 v_held_155 := by
          intro v_acts_155 v_labels_155 v_tasks_155 v_act_155 v_actA_155 v_actB_155 v_labelAt_155 v_task_155 v_taskA_155 v_taskB_155 v_held_155 f13 f14 f15 f16 f17 f18 u155_0 u155_1
          unfold w_X12_compile_155
          exact ih_31 v_acts_155 v_labels_155 v_tasks_155 v_act_155 v_actA_155 v_actB_155 v_labelAt_155 v_task_155 v_taskA_155 v_taskB_155 v_held_155 (gm_31 - 1) (by omega) (by omega) (by omega) (by omega) (by first | exact u155_0 | exact zCS_0 u0 u1 u20_0 u20_1 u20_2 u28_0 u28_1 u28_2 (by decide) (by decide) (by decide) (by decide) (by omega) (by omega) (by omega) rfl rfl u2 (fun z => (u4 z).2) rfl) (by first | exact u155_1 | exact zEC_0 u5 u20_0 u20_1 u28_0 u28_1 (by decide) (by decide) (by decide) (by first | omega | decide) (by first | omega | decide) (by first | omega | decide) (by first | omega | decide) (by have h9 := (zS_n u0).1; omega)) (by omega)
        refine ⟨fun c72 => ?_, fun c72 => ?_⟩
        · have f19 : x56.toInt ≠ 100 := i_ne (a := x56.toInt) (b := 100) rfl rfl c72
          refine ⟨fun c89 => ?_, fun c89 => ?_⟩
          · have f20 : x56.toInt ≠ 101 := i_ne (a := x56.toInt) (b := 101) rfl rfl c89
            refine ⟨i_in (by omega) (by omega), ?_⟩
            intro g115 eg115
            refine ⟨i_in (by omega) (by omega), ?_⟩
            intro g126 eg126
            refine ⟨i_in (by omega) (by omega), ?_⟩
            intro x143 ex143
            have h143 := zg_at2 (k := v_tasks_31.toInt - 1) ex143 (by omega)
            refine ⟨i_in (by omega) (by omega), ?_⟩
            intro g144 eg144
            intro x151 ex151
            have f21 : x151.toInt = v_acts_31.toInt + 1 := i_add (a := v_acts_31.toInt) (b := 1) ex151 rfl rfl (by omega) (by omega)
            exact j_155 x151 v_labels_31 x44 g115 g126 g144 v_labelAt_31 v_task_31 v_taskA_31 v_taskB_31 v_held_31 (by omega) (by omega) (by omega) (by omega) (by omega) (by omega) (by first | exact zCS_w u80_0 hB1 hB2 u31_0.2.1 u31_0.2.2 rfl | exact zCS_l u31_0 u0 u1 eg102 (by omega) (by omega) h66 rfl (by omega) rfl | exact zCS_o u31_0 u0 u1 eg115 eg126 eg144 (by omega) (by omega) (by omega) (by omega) rfl h56 h66 h143 (by omega) (by omega) rfl) (by first | exact zEC_q u80_1 | exact zEC_l u31_1 (by omega) (by omega) (by omega) | exact zEC_o u31_1 eg115 (by omega) (by omega) (by omega) (by omega) (by omega) (by omega))
          · have f22 : x56.toInt = 101 := i_eq (a := x56.toInt) (b := 101) rfl rfl c89
            have f23 : (0 ≤ x66.toInt ∧ x66.toInt ≤ 2999) := by have h9 := hb5 (by omega); omega
            refine ⟨i_in (by omega) (by omega), ?_⟩
            intro g102 eg102
            exact j_155 v_acts_31 v_labels_31 x44 v_act_31 v_actA_31 v_actB_31 g102 v_task_31 v_taskA_31 v_taskB_31 v_held_31 (by omega) (by omega) (by omega) (by omega) (by omega) (by omega) (by first | exact zCS_w u80_0 hB1 hB2 u31_0.2.1 u31_0.2.2 rfl | exact zCS_l u31_0 u0 u1 eg102 (by omega) (by omega) h66 rfl (by omega) rfl | exact zCS_o u31_0 u0 u1 eg115 eg126 eg144 (by omega) (by omega) (by omega) (by omega) rfl h56 h66 h143 (by omega) (by omega) rfl) (by first | exact zEC_q u80_1 | exact zEC_l u31_1 (by omega) (by omega) (by omega) | exact zEC_o u31_1 eg115 (by omega) (by omega) (by omega) (by omega) (by omega) (by omega))
        · have f24 : x56.toInt = 100 := i_eq (a := x56.toInt) (b := 100) rfl rfl c72
          obtain ⟨C9, L9, s9, s08, t9, B19, B29, hND, hB1, hB2⟩ := zCS_n (k := x66.toInt) (m' := x44.toInt) u31_0 u0 u1 ⟨(by omega), fun z => (u4 z).1⟩ (by omega) (by omega) h66 (by omega)
          have f25 : (0 ≤ x66.toInt ∧ x66.toInt ≤ 219) := by have h9 := hND.2.2.2.2.1.1; have h8 := (zS_n u0).2; omega
          refine ok_X12_compileNode (gZ := gZ) (gC := C9) (gL := L9) (gsi := s9) (gs0 := s08) (gta := t9) (gbs := (220 * p1.toInt)) (gq9 := (420 * p1.toInt)) (gn9 := (zg v_many p1.toInt)) (gc9 := (zg v_captures p1.toInt)) (gfi := gfi) (gB1 := B19) (gB2 := B29) (v_holder := v_holder) (v_parts := v_parts) (v_firstPart := v_firstPart) (v_partBegin := v_partBegin) (v_partEnd := v_partEnd) (v_act := v_act_31) (v_actA := v_actA_31) (v_actB := v_actB_31) (v_labelAt := v_labelAt_31) (v_acts := v_acts_31) (gP := gP) (gE := gE) (gB3 := (gP 0 - zcE v_act_31 v_acts_31.toInt)) (by omega) (by omega) (by omega) (by omega) (by omega) (by omega) (by omega) (by omega) (by omega) (by omega) (by exact hND) (by exact rfl) (by exact u3) (by exact zEC_n u31_1 u5 (by omega) (by omega) (by omega) (by omega)) (fun r80_0 r80_1 r80_2 r80_3 r80_4 r80_5 f26 f27 f28 f29 u80_0 u80_1 => ?_)
          exact j_155 v_acts_31 r80_0 r80_1 v_act_31 v_actA_31 v_actB_31 v_labelAt_31 r80_2 r80_3 r80_4 r80_5 (by omega) (by omega) (by omega) (by omega) (by omega) (by omega) (by first | exact zCS_w u80_0 hB1 hB2 u31_0.2.1 u31_0.2.2 rfl | exact zCS_l u31_0 u0 u1 eg102 (by omega) (by omega) h66 rfl (by omega) rfl | exact zCS_o u31_0 u0 u1 eg115 eg126 eg144 (by omega) (by omega) (by omega) (by omega) rfl h56 h66 h143 (by omega) (by omega) rfl) (by first | exact zEC_q u80_1 | exact zEC_l u31_1 (by omega) (by omega) (by omega) | exact zEC_o u31_1 eg115 (by omega) (by omega) (by omega) (by omega) (by omega) (by omega))
  exact ⟨(((12 * gZ 0 - 3))).toNat + 1, j_31   ((((12 * gZ 0 - 3))).toNat + 1) 0 0 r28_0 v_act v_actA v_actB v_labelAt r28_1 r28_2 r28_3 v_held ((12 * gZ 0 - 3)) (by omega) (by omega) (by omega) (by omega) (by first | exact u155_0 | exact zCS_0 u0 u1 u20_0 u20_1 u20_2 u28_0 u28_1 u28_2 (by decide) (by decide) (by decide) (by decide) (by omega) (by omega) (by omega) rfl rfl u2 (fun z => (u4 z).2) rfl) (by first | exact u155_1 | exact zEC_0 u5 u20_0 u20_1 u28_0 u28_1 (by decide) (by decide) (by decide) (by first | omega | decide) (by first | omega | decide) (by first | omega | decide) (by first | omega | decide) (by have h9 := (zS_n u0).1; omega)) (by omega)⟩
