set_option maxHeartbeats 4000000 in
theorem ok_X12_put_ {p1 : Int32} {p2 : Int32} {p3 : Int64} {v_isGoing : Bool} {v_goSubject : Int32} {v_isSubject : Nat → Bool} {v_long0 : Nat → Int32} {v_signs : Nat → Int32} {Q : Int32 → Int32 → Bool → (Nat → Bool) → (Nat → Int32) → (Nat → Int32) → Prop} (a0 : 0 ≤ v_goSubject.toInt) (a1 : v_goSubject.toInt ≤ 3) (b0 : rp (fun k v => 0 ≤ v ∧ v ≤ 100) v_long0 0 4) (b1 : rp (fun k v => 0 ≤ v ∧ v ≤ 65535) v_signs 0 400) (hq : ∀ (r : Int32) (ov_thrown : Int32) (ov_isGoing : Bool) (ov_isSubject : Nat → Bool) (ov_long0 : Nat → Int32) (ov_signs : Nat → Int32), ov_thrown.toInt = 0 → 0 ≤ r.toInt + 9 → r.toInt ≤ 100 → rp (fun k v => 0 ≤ v ∧ v ≤ 100) ov_long0 0 4 → rp (fun k v => 0 ≤ v ∧ v ≤ 100) ov_long0 0 (ov_thrown.toInt + 4) → rp (fun k v => 0 ≤ v ∧ v ≤ 100) ov_long0 ov_thrown.toInt 4 → rp (fun k v => 0 ≤ v ∧ v ≤ 100) ov_long0 ov_thrown.toInt (ov_thrown.toInt + 4) → rp (fun k v => 0 ≤ v ∧ v ≤ 65535) ov_signs 0 400 → rp (fun k v => 0 ≤ v ∧ v ≤ 65535) ov_signs 0 (ov_thrown.toInt + 400) → rp (fun k v => 0 ≤ v ∧ v ≤ 65535) ov_signs ov_thrown.toInt 400 → rp (fun k v => 0 ≤ v ∧ v ≤ 65535) ov_signs ov_thrown.toInt (ov_thrown.toInt + 400) → rp (fun k v => 0 ≤ v ∧ v ≤ 100) ov_long0 (r.toInt + 9) 4 → rp (fun k v => 0 ≤ v ∧ v ≤ 100) ov_long0 (r.toInt + 9) (ov_thrown.toInt + 4) → rp (fun k v => 0 ≤ v ∧ v ≤ 65535) ov_signs (r.toInt + 9) 400 → rp (fun k v => 0 ≤ v ∧ v ≤ 65535) ov_signs (r.toInt + 9) (ov_thrown.toInt + 400) → (zPt v_isSubject v_long0 p1.toInt p2.toInt ov_isSubject ov_long0) → (∀ (it : Nat → Bool) (s f st : Int), zGi v_isGoing it v_long0 s v_goSubject.toInt f st → zGi ov_isGoing it ov_long0 s v_goSubject.toInt f st) → ((¬ (0 ≤ p1.toInt ∧ p1.toInt ≤ 3) ∧ r.toInt = -2) ∨ ((0 ≤ p1.toInt ∧ p1.toInt ≤ 3) ∧ ¬ (0 ≤ p2.toInt ∧ p2.toInt ≤ 4) ∧ r.toInt = -4) ∨ ((0 ≤ p1.toInt ∧ p1.toInt ≤ 3) ∧ (0 ≤ p2.toInt ∧ p2.toInt ≤ 4) ∧ 100 < zln v_isSubject v_long0 p1.toInt + p2.toInt ∧ r.toInt = -9) ∨ ((0 ≤ p1.toInt ∧ p1.toInt ≤ 3) ∧ (0 ≤ p2.toInt ∧ p2.toInt ≤ 4) ∧ zln v_isSubject v_long0 p1.toInt + p2.toInt ≤ 100 ∧ r.toInt = zln v_isSubject v_long0 p1.toInt + p2.toInt)) → Q r ov_thrown ov_isGoing ov_isSubject ov_long0 ov_signs) : w_X12_put_ p1 p2 p3 v_isGoing v_goSubject v_isSubject v_long0 v_signs Q := by
  have q_t : (bz true).toInt = 1 := rfl
  have q_f : (bz false).toInt = 0 := rfl
  have q_m9 : ((-9) : Int32).toInt = (-9) := rfl
  have q_m4 : ((-4) : Int32).toInt = (-4) := rfl
  have q_m2 : ((-2) : Int32).toInt = (-2) := rfl
  have q_0 : (0 : Int32).toInt = 0 := rfl
  have q_1 : (1 : Int32).toInt = 1 := rfl
  have q_3 : (3 : Int32).toInt = 3 := rfl
  have q_4 : (4 : Int32).toInt = 4 := rfl
  unfold w_X12_put_
  refine ok_X12_in  (fun r8 f1 f2 f3 f4 f5 f6 => ?_)
  refine ⟨fun c11 => ?_, fun c11 => ?_⟩
  · have f7 : r8.toInt ≠ 0 := i_ne (a := r8.toInt) (b := 0) rfl rfl c11
    refine ok_X12_in  (fun r20 f8 f9 f10 f11 f12 f13 => ?_)
    refine ⟨fun c23 => ?_, fun c23 => ?_⟩
    · have f14 : r20.toInt ≠ 0 := i_ne (a := r20.toInt) (b := 0) rfl rfl c23
      refine ⟨i_in (by omega) (by omega), ?_⟩
      intro x34 ex34
      have f15 : (0 ≤ x34.toInt ∧ x34.toInt ≤ 1) := i_bz ex34
      have j_48 : ∀ (s0_48 : Int32), ((s0_48.toInt = 0 ∧ x34.toInt = 0) ∨ (0 ≤ s0_48.toInt ∧ s0_48.toInt ≤ 100)) → (s0_48.toInt = zln v_isSubject v_long0 p1.toInt) → w_X12_put__48 p1 p2 p3 v_goSubject Q s0_48 0 v_isGoing v_isSubject v_long0 v_signs := by
        intro s0_48 f16 u48_0
        unfold w_X12_put__48
        intro x53 ex53
        have f17 : x53.toInt = s0_48.toInt + p2.toInt := i_add (a := s0_48.toInt) (b := p2.toInt) ex53 rfl rfl (by omega) (by omega)
        refine ⟨fun c56 => ?_, fun c56 => ?_⟩
        · have f18 : x53.toInt ≤ 100 := i_le (a := x53.toInt) (b := 100) rfl rfl c56
          have j_65 : ∀ n_65 : Nat, ∀ (l6_65 : Int32) (v_signs_65 : Nat → Int32), 0 ≤ l6_65.toInt → l6_65.toInt ≤ p2.toInt → rp (fun k v => 0 ≤ v ∧ v ≤ 65535) v_signs_65 0 400 → rp (fun k v => 0 ≤ v ∧ v ≤ 65535) v_signs_65 l6_65.toInt 400 → ((-1) * l6_65.toInt + 16).toNat < n_65 → w_X12_put__65 p1 p2 p3 v_goSubject Q s0_48 0 v_isGoing v_isSubject v_long0 n_65 l6_65 v_signs_65 := by
            intro n_65
            induction n_65 with
            | zero =>
              intro l6_65 v_signs_65 f19 f20 h21 h22 hm_65
              exfalso; omega
            | succ n_65 ih_65 =>
              intro l6_65 v_signs_65 f19 f20 h21 h22 hm_65
              unfold w_X12_put__65
              unfold w_X12_put__65B
              refine ⟨fun c68 => ?_, fun c68 => ?_⟩
              · have f23 : p2.toInt ≤ l6_65.toInt := i_le (a := p2.toInt) (b := l6_65.toInt) rfl rfl c68
                refine ⟨i_in (by omega) (by omega), ?_⟩
                intro g114 eg114
                intro x123 ex123
                have f24 : x123.toInt = s0_48.toInt + p2.toInt := i_add (a := s0_48.toInt) (b := p2.toInt) ex123 rfl rfl (by omega) (by omega)
                refine ⟨i_in (by omega) (by omega), ?_⟩
                intro g124 eg124
                have h25 : rp (fun k v => 0 ≤ v ∧ v ≤ 100) g124 0 4 := rp_upd (P := (fun k v => 0 ≤ v ∧ v ≤ 100)) (a := p1.toInt) (b := x123.toInt) b0 eg124 rfl rfl (by omega) ⟨(by omega), (by omega)⟩
                have f26 : (0 ≤ (bz v_isGoing).toInt ∧ (bz v_isGoing).toInt ≤ 1) := i_bzr v_isGoing
                have j_146 : ∀ (s0_146 : Int32), ((s0_146.toInt = 1) ∨ (s0_146.toInt = 0)) → (zPt v_isSubject v_long0 p1.toInt p2.toInt g114 g124) → (s0_146.toInt = 1 → (v_isGoing = true ∧ v_goSubject.toInt ≠ p1.toInt)) → (g124 = g124) → w_X12_put__146 p2 Q s0_146 s0_48 0 v_isGoing g114 g124 v_signs_65 := by
                  intro s0_146 f27 u146_0 u146_1 u146_2
                  unfold w_X12_put__146
                  refine ⟨i_01 (by omega) (by omega), ?_⟩
                  intro b146 eb146
                  have f28 : (bz b146).toInt = s0_146.toInt := by rw [← eb146]
                  intro x152 ex152
                  have f29 : x152.toInt = s0_48.toInt + p2.toInt := i_add (a := s0_48.toInt) (b := p2.toInt) ex152 rfl rfl (by omega) (by omega)
                  exact hq x152 0 b146 g114 g124 v_signs_65 (by omega) (by omega) (by omega) (rp_mono h25 (by omega) (by omega)) (rp_mono h25 (by omega) (by omega)) (rp_mono h25 (by omega) (by omega)) (rp_mono h25 (by omega) (by omega)) (rp_mono h21 (by omega) (by omega)) (rp_mono h21 (by omega) (by omega)) (rp_mono h21 (by omega) (by omega)) (rp_mono h21 (by omega) (by omega)) (rp_mono h25 (by omega) (by omega)) (rp_mono h25 (by omega) (by omega)) (rp_mono h22 (by omega) (by omega)) (rp_mono h22 (by omega) (by omega)) (by assumption) (by exact fun _ _ _ _ h => zGi_put h eg124 (by omega) (fun z => u146_1 (zbz2 z (by assumption)))) (by omega)
                have j_145 : (((bz v_isGoing).toInt = 0) ∨ (v_goSubject.toInt = p1.toInt)) → (zPt v_isSubject v_long0 p1.toInt p2.toInt g114 g124) → (g124 = g124) → w_X12_put__145 p2 Q s0_48 0 v_isGoing g114 g124 v_signs_65 := by
                  intro f30 u145_0 u145_1
                  unfold w_X12_put__145
                  exact j_146 0 (by omega) (by first | assumption | exact zPt_yes eg114 (by decide) eg124 u48_0 (by omega) (by omega) (by omega) (by omega)) (by first | exact fun _ => ⟨zbz1 (by omega), by omega⟩ | exact fun z => absurd z (by decide)) (by first | assumption | rfl)
                refine ⟨fun c130 => ?_, fun c130 => ?_⟩
                · have f31 : (bz v_isGoing).toInt = 0 := i_eq (a := (bz v_isGoing).toInt) (b := 0) rfl rfl c130
                  exact j_145  (by omega) (by exact zPt_yes eg114 (by decide) eg124 u48_0 (by omega) (by omega) (by omega) (by omega)) (by rfl)
                · have f32 : (bz v_isGoing).toInt ≠ 0 := i_ne (a := (bz v_isGoing).toInt) (b := 0) rfl rfl c130
                  refine ⟨fun c138 => ?_, fun c138 => ?_⟩
                  · have f33 : v_goSubject.toInt = p1.toInt := i_eq (a := v_goSubject.toInt) (b := p1.toInt) rfl rfl c138
                    exact j_145  (by omega) (by exact zPt_yes eg114 (by decide) eg124 u48_0 (by omega) (by omega) (by omega) (by omega)) (by rfl)
                  · have f34 : v_goSubject.toInt ≠ p1.toInt := i_ne (a := v_goSubject.toInt) (b := p1.toInt) rfl rfl c138
                    exact j_146 1 (by omega) (by first | assumption | exact zPt_yes eg114 (by decide) eg124 u48_0 (by omega) (by omega) (by omega) (by omega)) (by first | exact fun _ => ⟨zbz1 (by omega), by omega⟩ | exact fun z => absurd z (by decide)) (by first | assumption | rfl)
              · have f35 : l6_65.toInt < p2.toInt := i_nle (a := p2.toInt) (b := l6_65.toInt) rfl rfl c68
                intro x78 ex78
                have f36 : x78.toInt = 100 * p1.toInt := i_mul (a := 100) (b := p1.toInt) ex78 rfl rfl (by omega) (by omega)
                intro x81 ex81
                have f37 : x81.toInt = x78.toInt + s0_48.toInt := i_add (a := x78.toInt) (b := s0_48.toInt) ex81 rfl rfl (by omega) (by omega)
                intro x84 ex84
                have f38 : x84.toInt = x81.toInt + l6_65.toInt := i_add (a := x81.toInt) (b := l6_65.toInt) ex84 rfl rfl (by omega) (by omega)
                intro x90 ex90
                have f39 : x90.toInt = p2.toInt - 1 := i_sub (a := p2.toInt) (b := 1) ex90 rfl rfl (by omega) (by omega)
                intro x93 ex93
                have f40 : x93.toInt = x90.toInt - l6_65.toInt := i_sub (a := x90.toInt) (b := l6_65.toInt) ex93 rfl rfl (by omega) (by omega)
                intro x94 ex94
                have f41 : x94.toInt = 16 * x93.toInt := i_mul (a := 16) (b := x93.toInt) ex94 rfl rfl (by omega) (by omega)
                intro y95 ey95
                intro y99 ey99
                intro x100 ex100
                have f42 : 0 ≤ x100.toInt := (zl16 ey99 ex100).1
                have f43 : x100.toInt ≤ 65535 := (zl16 ey99 ex100).2
                refine ⟨i_in (by omega) (by omega), ?_⟩
                intro g101 eg101
                have h44 : rp (fun k v => 0 ≤ v ∧ v ≤ 65535) g101 0 400 := rp_upd (P := (fun k v => 0 ≤ v ∧ v ≤ 65535)) (a := x84.toInt) (b := x100.toInt) h21 eg101 rfl rfl (by omega) ⟨(by omega), (by omega)⟩
                have h45 : rp (fun k v => 0 ≤ v ∧ v ≤ 65535) g101 l6_65.toInt 400 := rp_upd (P := (fun k v => 0 ≤ v ∧ v ≤ 65535)) (a := x84.toInt) (b := x100.toInt) h22 eg101 rfl rfl (by omega) ⟨(by omega), (by omega)⟩
                intro x102 ex102
                have f46 : x102.toInt = l6_65.toInt + 1 := i_add (a := l6_65.toInt) (b := 1) ex102 rfl rfl (by omega) (by omega)
                exact ih_65 x102 g101  (by omega) (by omega) (rp_mono h44 (by omega) (by omega)) (rp_mono h45 (by omega) (by omega)) (by have h8_0 := i_rng l6_65; have h8_1 := i_rng x102; omega)
          exact ⟨(16 : Int).toNat + 1, j_65   ((16 : Int).toNat + 1) 0 v_signs  (by omega) (by omega) (rp_mono b1 (by omega) (by omega)) (rp_mono b1 (by omega) (by omega)) (by omega)⟩
        · have f47 : 100 < x53.toInt := i_nle (a := x53.toInt) (b := 100) rfl rfl c56
          exact hq (-9) 0 v_isGoing v_isSubject v_long0 v_signs (by omega) (by omega) (by omega) (rp_mono b0 (by omega) (by omega)) (rp_mono b0 (by omega) (by omega)) (rp_mono b0 (by omega) (by omega)) (rp_mono b0 (by omega) (by omega)) (rp_mono b1 (by omega) (by omega)) (rp_mono b1 (by omega) (by omega)) (rp_mono b1 (by omega) (by omega)) (rp_mono b1 (by omega) (by omega)) (rp_mono b0 (by omega) (by omega)) (rp_mono b0 (by omega) (by omega)) (rp_mono b1 (by omega) (by omega)) (rp_mono b1 (by omega) (by omega)) (by exact zPt_full u48_0 (by omega)) (by exact fun _ _ _ _ h => h) (by omega)
      refine ⟨fun c35 => ?_, fun c35 => ?_⟩
      · have f48 : x34.toInt = 0 := i_eq (a := x34.toInt) (b := 0) rfl rfl c35
        exact j_48 0 (by omega) (by first | exact zln_t ex34 (by omega) ex43 | exact zln_f ex34 (by omega))
      · have f49 : x34.toInt ≠ 0 := i_ne (a := x34.toInt) (b := 0) rfl rfl c35
        refine ⟨i_in (by omega) (by omega), ?_⟩
        intro x43 ex43
        have f50 : 0 ≤ x43.toInt ∧ x43.toInt ≤ 100 := by have h9 := rp_get (P := (fun k v => 0 ≤ v ∧ v ≤ 100)) (a := p1.toInt) b0 ex43 rfl (by omega) (by omega) (by omega); omega
        exact j_48 x43 (by omega) (by first | exact zln_t ex34 (by omega) ex43 | exact zln_f ex34 (by omega))
    · have f51 : r20.toInt = 0 := i_eq (a := r20.toInt) (b := 0) rfl rfl c23
      exact hq (-4) 0 v_isGoing v_isSubject v_long0 v_signs (by omega) (by omega) (by omega) (rp_mono b0 (by omega) (by omega)) (rp_mono b0 (by omega) (by omega)) (rp_mono b0 (by omega) (by omega)) (rp_mono b0 (by omega) (by omega)) (rp_mono b1 (by omega) (by omega)) (rp_mono b1 (by omega) (by omega)) (rp_mono b1 (by omega) (by omega)) (rp_mono b1 (by omega) (by omega)) (rp_mono b0 (by omega) (by omega)) (rp_mono b0 (by omega) (by omega)) (rp_mono b1 (by omega) (by omega)) (rp_mono b1 (by omega) (by omega)) (by exact zPt_no (by omega)) (by exact fun _ _ _ _ h => h) (by omega)
  · have f52 : r8.toInt = 0 := i_eq (a := r8.toInt) (b := 0) rfl rfl c11
    exact hq (-2) 0 v_isGoing v_isSubject v_long0 v_signs (by omega) (by omega) (by omega) (rp_mono b0 (by omega) (by omega)) (rp_mono b0 (by omega) (by omega)) (rp_mono b0 (by omega) (by omega)) (rp_mono b0 (by omega) (by omega)) (rp_mono b1 (by omega) (by omega)) (rp_mono b1 (by omega) (by omega)) (rp_mono b1 (by omega) (by omega)) (rp_mono b1 (by omega) (by omega)) (rp_mono b0 (by omega) (by omega)) (rp_mono b0 (by omega) (by omega)) (rp_mono b1 (by omega) (by omega)) (rp_mono b1 (by omega) (by omega)) (by exact zPt_no (by omega)) (by exact fun _ _ _ _ h => h) (by omega)
