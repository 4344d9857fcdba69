set_option maxHeartbeats 4000000 in
theorem ok_X12_begins {p1 : Int32} {p2 : Int32} {v_finding : Int32} {v_isThere : Nat → Bool} {v_many : Nat → Int32} {v_sort : Nat → Int32} {v_value : Nat → Int32} {v_most : Nat → Int32} {v_parts : Nat → Int32} {v_end : Nat → Int32} {v_firstPart : Nat → Int32} {v_mayEmpty : Nat → Bool} {v_inCase : Nat → Bool} {v_partBegin : Nat → Int32} {v_partEnd : Nat → Int32} {v_begun : Nat → Bool} {v_captures : Nat → Int32} {v_least : Nat → Int32} {v_holder : Nat → Int32} {v_size : Nat → Int32} {v_positions : Nat → Int32} {Q : Int32 → Int32 → Int32 → (Nat → Bool) → Prop} (u0 : zAll v_isThere v_many v_captures v_sort v_value v_least v_most v_holder v_parts v_end v_firstPart v_partBegin v_partEnd v_size v_positions) (hq : ∀ (r : Int32) (ov_thrown : Int32) (ov_finding : Int32) (ov_begun : Nat → Bool), ov_thrown.toInt = 0 → 0 ≤ r.toInt + 4 → r.toInt ≤ 1 → Q r ov_thrown ov_finding ov_begun) : w_X12_begins p1 p2 v_finding v_isThere v_many v_sort v_value v_most v_parts v_end v_firstPart v_mayEmpty v_inCase v_partBegin v_partEnd v_begun Q := by
  have q_t : (bz true).toInt = 1 := rfl
  have q_f : (bz false).toInt = 0 := rfl
  have q_m4 : ((-4) : Int32).toInt = (-4) := rfl
  have q_m2 : ((-2) : Int32).toInt = (-2) := rfl
  have q_0 : (0 : Int32).toInt = 0 := rfl
  have q_1 : (1 : Int32).toInt = 1 := rfl
  have q_65535 : (65535 : Int32).toInt = 65535 := rfl
  unfold w_X12_begins
  refine ok_X12_wrongSlot  (fun r7 r7_0 f1 f2 f3 u7_0 => ?_)
  refine ⟨fun c10 => ?_, fun c10 => ?_⟩
  · have f4 : r7.toInt = 0 := i_eq (a := r7.toInt) (b := 0) rfl rfl c10
    have hSM := zAll_s u0 (u7_0 (by omega)) (by omega) (by omega)
    have hS := hSM.1
    have hM := hSM.2
    have f5 : 1 ≤ (zg v_many p1.toInt : Int) := (zS_n hS).1
    have f6 : (zg v_many p1.toInt : Int) ≤ 220 := (zS_n hS).2
    have f7 : 0 ≤ (zg v_captures p1.toInt : Int) := (zS_c hS).1
    have f8 : (zg v_captures p1.toInt : Int) ≤ 9 := (zS_c hS).2
    refine ok_X12_in  (fun r21 f9 f10 f11 f12 f13 f14 => ?_)
    refine ⟨fun c24 => ?_, fun c24 => ?_⟩
    · have f15 : r21.toInt ≠ 0 := i_ne (a := r21.toInt) (b := 0) rfl rfl c24
      refine ok_X12_findBegun (v_least := v_least) (v_holder := v_holder) (v_captures := v_captures) (by omega) (by omega) (by omega) (by omega) (by exact hS) (fun r33_0 => ?_)
      intro x41 ex41
      have f16 : (0 ≤ x41.toInt ∧ x41.toInt ≤ 1) := i_bz ex41
      have j_50 : ∀ (s0_50 : Int32), ((s0_50.toInt = 0 ∧ x41.toInt = 0) ∨ (s0_50.toInt = 1)) → w_X12_begins_50 Q s0_50 0 r7_0 r33_0 := by
        intro s0_50 f17
        unfold w_X12_begins_50
        exact hq s0_50 0 r7_0 r33_0 (by omega) (by omega) (by omega)
      refine ⟨fun c42 => ?_, fun c42 => ?_⟩
      · have f18 : x41.toInt = 0 := i_eq (a := x41.toInt) (b := 0) rfl rfl c42
        exact j_50 0 (by omega)
      · have f19 : x41.toInt ≠ 0 := i_ne (a := x41.toInt) (b := 0) rfl rfl c42
        exact j_50 1 (by omega)
    · have f20 : r21.toInt = 0 := i_eq (a := r21.toInt) (b := 0) rfl rfl c24
      exact hq (-4) 0 r7_0 v_begun (by omega) (by omega) (by omega)
  · have f21 : r7.toInt ≠ 0 := i_ne (a := r7.toInt) (b := 0) rfl rfl c10
    exact hq (-2) 0 r7_0 v_begun (by omega) (by omega) (by omega)
set_option maxHeartbeats 4000000 in
theorem ok_X12_wrongSubject {p1 : Int32} {v_finding : Int32} {v_isSubject : Nat → Bool} {Q : Int32 → Int32 → Prop} (hq : ∀ (r : Int32) (ov_finding : Int32), ((r.toInt = 0 ∧ ov_finding.toInt = v_finding.toInt) ∨ (r.toInt + 3 = 0 ∧ ov_finding.toInt = 2) ∨ (r.toInt + 2 = 0 ∧ ov_finding.toInt = v_finding.toInt)) → ((r.toInt ≠ 0) ∨ (0 ≤ p1.toInt)) → ((r.toInt ≠ 0) ∨ (p1.toInt ≤ 3)) → (r.toInt = 0 → v_isSubject p1.toNatClampNeg = true) → (r.toInt = -3 → (0 ≤ p1.toInt ∧ p1.toInt ≤ 3 ∧ v_isSubject p1.toNatClampNeg = false)) → (r.toInt = -2 → (p1.toInt < 0 ∨ 3 < p1.toInt)) → Q r ov_finding) : w_X12_wrongSubject p1 v_finding v_isSubject Q := by
  have q_t : (bz true).toInt = 1 := rfl
  have q_f : (bz false).toInt = 0 := rfl
  have q_m3 : ((-3) : Int32).toInt = (-3) := rfl
  have q_m2 : ((-2) : Int32).toInt = (-2) := rfl
  have q_0 : (0 : Int32).toInt = 0 := rfl
  have q_2 : (2 : Int32).toInt = 2 := rfl
  have q_3 : (3 : Int32).toInt = 3 := rfl
  unfold w_X12_wrongSubject
  refine ok_X12_in  (fun r3 f1 f2 f3 f4 f5 f6 => ?_)
  refine ⟨fun c6 => ?_, fun c6 => ?_⟩
  · have f7 : r3.toInt ≠ 0 := i_ne (a := r3.toInt) (b := 0) rfl rfl c6
    refine ⟨i_in (by omega) (by omega), ?_⟩
    intro x17 ex17
    have f8 : (0 ≤ x17.toInt ∧ x17.toInt ≤ 1) := i_bz ex17
    refine ⟨fun c18 => ?_, fun c18 => ?_⟩
    · have f9 : x17.toInt ≠ 0 := i_ne (a := x17.toInt) (b := 0) rfl rfl c18
      exact hq 0 v_finding (by omega) (by omega) (by omega) (by exact fun _ => zbz_t ex17 (by omega)) (by exact fun z => absurd z (by decide)) (by exact fun z => absurd z (by decide))
    · have f10 : x17.toInt = 0 := i_eq (a := x17.toInt) (b := 0) rfl rfl c18
      exact hq (-3) 2 (by omega) (by omega) (by omega) (by exact fun z => absurd z (by decide)) (by exact fun _ => ⟨by omega, by omega, zbz_f ex17 (by omega)⟩) (by exact fun z => absurd z (by decide))
  · have f11 : r3.toInt = 0 := i_eq (a := r3.toInt) (b := 0) rfl rfl c6
    exact hq (-2) v_finding (by omega) (by omega) (by omega) (by exact fun z => absurd z (by decide)) (by exact fun z => absurd z (by decide)) (by exact fun _ => by omega)
set_option maxHeartbeats 4000000 in
theorem ok_X12_feed {p1 : Int32} {p2 : Int64} {v_taped : Int32} {v_tape : Nat → Int32} {Q : Int32 → Int32 → Int32 → (Nat → Int32) → Prop} (a0 : 0 ≤ v_taped.toInt) (a1 : v_taped.toInt ≤ 200) (b0 : rp (fun k v => 32 ≤ v ∧ v ≤ 126) v_tape 0 v_taped.toInt) (hq : ∀ (r : Int32) (ov_thrown : Int32) (ov_taped : Int32) (ov_tape : Nat → Int32), ov_thrown.toInt = 0 → v_taped.toInt ≤ ov_taped.toInt → 0 ≤ r.toInt + 9 → r.toInt ≤ 200 → ov_taped.toInt ≤ 200 → rp (fun k v => 32 ≤ v ∧ v ≤ 126) ov_tape 0 v_taped.toInt → rp (fun k v => 32 ≤ v ∧ v ≤ 126) ov_tape 0 ov_taped.toInt → rp (fun k v => 32 ≤ v ∧ v ≤ 126) ov_tape (r.toInt + 9) v_taped.toInt → rp (fun k v => 32 ≤ v ∧ v ≤ 126) ov_tape (r.toInt + 9) ov_taped.toInt → rp (fun k v => 32 ≤ v ∧ v ≤ 126) ov_tape ov_thrown.toInt v_taped.toInt → rp (fun k v => 32 ≤ v ∧ v ≤ 126) ov_tape ov_thrown.toInt ov_taped.toInt → rp (fun k v => 32 ≤ v ∧ v ≤ 126) ov_tape 0 r.toInt → rp (fun k v => 32 ≤ v ∧ v ≤ 126) ov_tape ov_thrown.toInt r.toInt → Q r ov_thrown ov_taped ov_tape) : w_X12_feed p1 p2 v_taped v_tape Q := by
  have q_t : (bz true).toInt = 1 := rfl
  have q_f : (bz false).toInt = 0 := rfl
  have q_m9 : ((-9) : Int32).toInt = (-9) := rfl
  have q_m4 : ((-4) : Int32).toInt = (-4) := rfl
  have q_0 : (0 : Int32).toInt = 0 := rfl
  have q_1 : (1 : Int32).toInt = 1 := rfl
  have q_8 : (8 : Int32).toInt = 8 := rfl
  have q_32 : (32 : Int32).toInt = 32 := rfl
  have q_126 : (126 : Int32).toInt = 126 := rfl
  unfold w_X12_feed
  refine ok_X12_in  (fun r9 f1 f2 f3 f4 f5 f6 => ?_)
  have j_17 : ∀ n_17 : Nat, ∀ (l4_17 : Int32) (l5_17 : Int32), 0 ≤ l4_17.toInt → l4_17.toInt ≤ r9.toInt → 0 ≤ l5_17.toInt → l5_17.toInt ≤ 8 → (zFg l4_17.toInt p2 l5_17.toInt) → ((-1) * l5_17.toInt + 8).toNat < n_17 → w_X12_feed_17 p1 p2 Q 0 v_taped v_tape n_17 l4_17 l5_17 := by
    intro n_17
    induction n_17 with
    | zero =>
      intro l4_17 l5_17 f7 f8 f9 f10 u17_0 hm_17
      exfalso; omega
    | succ n_17 ih_17 =>
      intro l4_17 l5_17 f7 f8 f9 f10 u17_0 hm_17
      unfold w_X12_feed_17
      unfold w_X12_feed_17B
      have j_55 : ((p1.toInt ≤ l5_17.toInt) ∨ (l5_17.toInt + 1 ≤ p1.toInt ∧ l4_17.toInt = 0)) → (zFg l4_17.toInt p2 p1.toInt) → w_X12_feed_55 p1 p2 Q l4_17 0 v_taped v_tape := by
        intro f11 u55_0
        unfold w_X12_feed_55
        refine ⟨fun c57 => ?_, fun c57 => ?_⟩
        · have f12 : l4_17.toInt ≠ 0 := i_ne (a := l4_17.toInt) (b := 0) rfl rfl c57
          have hF := u55_0.resolve_left (by omega)
          intro x68 ex68
          have f13 : x68.toInt = v_taped.toInt + p1.toInt := i_add (a := v_taped.toInt) (b := p1.toInt) ex68 rfl rfl (by omega) (by omega)
          refine ⟨fun c72 => ?_, fun c72 => ?_⟩
          · have f14 : x68.toInt ≤ 200 := i_le (a := x68.toInt) (b := 200) rfl rfl c72
            intro x80 ex80
            have f15 : x80.toInt = p1.toInt - 1 := i_sub (a := p1.toInt) (b := 1) ex80 rfl rfl (by omega) (by omega)
            have j_83 : ∀ n_83 : Nat, ∀ (l5_83 : Int32) (v_taped_83 : Int32) (v_tape_83 : Nat → Int32), 0 ≤ l5_83.toInt + 1 → l5_83.toInt + v_taped_83.toInt + 1 = p1.toInt + v_taped.toInt → l5_83.toInt + 1 ≤ p1.toInt → rp (fun k v => 32 ≤ v ∧ v ≤ 126) v_tape_83 0 v_taped.toInt → rp (fun k v => 32 ≤ v ∧ v ≤ 126) v_tape_83 0 v_taped_83.toInt → (l5_83.toInt + 2147483649).toNat < n_83 → w_X12_feed_83 p2 Q 0 n_83 l5_83 v_taped_83 v_tape_83 := by
              intro n_83
              induction n_83 with
              | zero =>
                intro l5_83 v_taped_83 v_tape_83 f16 f17 f18 h19 h20 hm_83
                exfalso; omega
              | succ n_83 ih_83 =>
                intro l5_83 v_taped_83 v_tape_83 f16 f17 f18 h19 h20 hm_83
                unfold w_X12_feed_83
                unfold w_X12_feed_83B
                refine ⟨fun c85 => ?_, fun c85 => ?_⟩
                · have f21 : l5_83.toInt < 0 := i_lt (a := l5_83.toInt) (b := 0) rfl rfl c85
                  exact hq v_taped_83 0 v_taped_83 v_tape_83 (by omega) (by omega) (by omega) (by omega) (by omega) (rp_mono h20 (by omega) (by omega)) (rp_mono h20 (by omega) (by omega)) (rp_mono h20 (by omega) (by omega)) (rp_mono h20 (by omega) (by omega)) (rp_mono h20 (by omega) (by omega)) (rp_mono h20 (by omega) (by omega)) (rp_mono h20 (by omega) (by omega)) (rp_mono h20 (by omega) (by omega))
                · have f22 : 0 ≤ l5_83.toInt := i_nlt (a := l5_83.toInt) (b := 0) rfl rfl c85
                  intro x101 ex101
                  have f23 : x101.toInt = 8 * l5_83.toInt := i_mul (a := 8) (b := l5_83.toInt) ex101 rfl rfl (by omega) (by omega)
                  intro y102 ey102
                  intro y106 ey106
                  intro x107 ex107
                  have f24 : 32 ≤ x107.toInt := by have h9 := hF l5_83 (by omega) (by omega); rw [← zb8_e ex101 ey102 ey106 ex107] at h9; omega
                  have f25 : x107.toInt ≤ 126 := by have h9 := hF l5_83 (by omega) (by omega); rw [← zb8_e ex101 ey102 ey106 ex107] at h9; omega
                  refine ⟨i_in (by omega) (by omega), ?_⟩
                  intro g108 eg108
                  have h26 : rp (fun k v => 32 ≤ v ∧ v ≤ 126) g108 0 v_taped.toInt := rp_upd (P := (fun k v => 32 ≤ v ∧ v ≤ 126)) (a := v_taped_83.toInt) (b := x107.toInt) h19 eg108 rfl rfl (by omega) ⟨(by omega), (by omega)⟩
                  have h27 : rp (fun k v => 32 ≤ v ∧ v ≤ 126) g108 0 (v_taped_83.toInt + 1) := rp_ext (P := (fun k v => 32 ≤ v ∧ v ≤ 126)) (a := v_taped_83.toInt) (b := x107.toInt) h20 eg108 rfl rfl (by omega) (by omega) ⟨(by omega), (by omega)⟩
                  intro x115 ex115
                  have f28 : x115.toInt = v_taped_83.toInt + 1 := i_add (a := v_taped_83.toInt) (b := 1) ex115 rfl rfl (by omega) (by omega)
                  intro x119 ex119
                  have f29 : x119.toInt = l5_83.toInt + (-1) := i_add (a := l5_83.toInt) (b := (-1)) ex119 rfl rfl (by omega) (by omega)
                  exact ih_83 x119 x115 g108 (by omega) (by omega) (by omega) (rp_mono h27 (by omega) (by omega)) (rp_mono h27 (by omega) (by omega)) (by have h8_0 := i_rng l5_83; have h8_1 := i_rng x119; omega)
            exact ⟨(x80.toInt + 2147483649).toNat + 1, j_83   ((x80.toInt + 2147483649).toNat + 1) x80 v_taped v_tape (by omega) (by omega) (by omega) (rp_mono b0 (by omega) (by omega)) (rp_mono b0 (by omega) (by omega)) (by omega)⟩
          · have f30 : 200 < x68.toInt := i_nle (a := x68.toInt) (b := 200) rfl rfl c72
            exact hq (-9) 0 v_taped v_tape (by omega) (by omega) (by omega) (by omega) (by omega) (rp_mono b0 (by omega) (by omega)) (rp_mono b0 (by omega) (by omega)) (rp_mono b0 (by omega) (by omega)) (rp_mono b0 (by omega) (by omega)) (rp_mono b0 (by omega) (by omega)) (rp_mono b0 (by omega) (by omega)) (rp_mono b0 (by omega) (by omega)) (rp_mono b0 (by omega) (by omega))
        · have f31 : l4_17.toInt = 0 := i_eq (a := l4_17.toInt) (b := 0) rfl rfl c57
          exact hq (-4) 0 v_taped v_tape (by omega) (by omega) (by omega) (by omega) (by omega) (rp_mono b0 (by omega) (by omega)) (rp_mono b0 (by omega) (by omega)) (rp_mono b0 (by omega) (by omega)) (rp_mono b0 (by omega) (by omega)) (rp_mono b0 (by omega) (by omega)) (rp_mono b0 (by omega) (by omega)) (rp_mono b0 (by omega) (by omega)) (rp_mono b0 (by omega) (by omega))
      refine ⟨fun c20 => ?_, fun c20 => ?_⟩
      · have f32 : p1.toInt ≤ l5_17.toInt := i_le (a := p1.toInt) (b := l5_17.toInt) rfl rfl c20
        exact j_55  (by omega) (by first | exact Or.inl (by omega) | exact zFg_m u17_0 (by omega))
      · have f33 : l5_17.toInt < p1.toInt := i_nle (a := p1.toInt) (b := l5_17.toInt) rfl rfl c20
        refine ⟨fun c25 => ?_, fun c25 => ?_⟩
        · have f34 : l4_17.toInt = 0 := i_eq (a := l4_17.toInt) (b := 0) rfl rfl c25
          exact j_55  (by omega) (by first | exact Or.inl (by omega) | exact zFg_m u17_0 (by omega))
        · have f35 : l4_17.toInt ≠ 0 := i_ne (a := l4_17.toInt) (b := 0) rfl rfl c25
          intro x33 ex33
          have f36 : x33.toInt = 8 * l5_17.toInt := i_mul (a := 8) (b := l5_17.toInt) ex33 rfl rfl (by omega) (by omega)
          intro y34 ey34
          intro y38 ey38
          intro x39 ex39
          refine ok_X12_in  (fun r44 f37 f38 f39 f40 f41 f42 => ?_)
          intro x49 ex49
          have f43 : x49.toInt = l5_17.toInt + 1 := i_add (a := l5_17.toInt) (b := 1) ex49 rfl rfl (by omega) (by omega)
          exact ih_17 r44 x49 (by omega) (by omega) (by omega) (by omega) (by first | exact zFg_0 | exact zFg_s u17_0 (by omega) (zb8_e ex33 ey34 ey38 ex39) (by omega) (by omega) (by omega)) (by have h8_0 := i_rng l5_17; have h8_1 := i_rng x49; omega)
  exact ⟨(8 : Int).toNat + 1, j_17   ((8 : Int).toNat + 1) r9 0 (by omega) (by omega) (by omega) (by omega) (by first | exact zFg_0 | exact zFg_s u17_0 (by omega) (zb8_e ex33 ey34 ey38 ex39) (by omega) (by omega) (by omega)) (by omega)⟩
set_option maxHeartbeats 4000000 in
theorem ok_X12_put_ {p1 : Int32} {p2 : Int32} {p3 : Int64} {v_isGoing : Bool} {v_goSubject : Int32} {v_isSubject : Nat → Bool} {v_long0 : Nat → Int32} {v_signs : Nat → Int32} {Q : Int32 → Int32 → Bool → (Nat → Bool) → (Nat → Int32) → (Nat → Int32) → Prop} (a0 : 0 ≤ v_goSubject.toInt) (a1 : v_goSubject.toInt ≤ 3) (b0 : rp (fun k v => 0 ≤ v ∧ v ≤ 100) v_long0 0 4) (b1 : rp (fun k v => 0 ≤ v ∧ v ≤ 65535) v_signs 0 400) (hq : ∀ (r : Int32) (ov_thrown : Int32) (ov_isGoing : Bool) (ov_isSubject : Nat → Bool) (ov_long0 : Nat → Int32) (ov_signs : Nat → Int32), ov_thrown.toInt = 0 → 0 ≤ r.toInt + 9 → r.toInt ≤ 100 → rp (fun k v => 0 ≤ v ∧ v ≤ 100) ov_long0 0 4 → rp (fun k v => 0 ≤ v ∧ v ≤ 100) ov_long0 0 (ov_thrown.toInt + 4) → rp (fun k v => 0 ≤ v ∧ v ≤ 100) ov_long0 ov_thrown.toInt 4 → rp (fun k v => 0 ≤ v ∧ v ≤ 100) ov_long0 ov_thrown.toInt (ov_thrown.toInt + 4) → rp (fun k v => 0 ≤ v ∧ v ≤ 65535) ov_signs 0 400 → rp (fun k v => 0 ≤ v ∧ v ≤ 65535) ov_signs 0 (ov_thrown.toInt + 400) → rp (fun k v => 0 ≤ v ∧ v ≤ 65535) ov_signs ov_thrown.toInt 400 → rp (fun k v => 0 ≤ v ∧ v ≤ 65535) ov_signs ov_thrown.toInt (ov_thrown.toInt + 400) → rp (fun k v => 0 ≤ v ∧ v ≤ 100) ov_long0 (r.toInt + 9) 4 → rp (fun k v => 0 ≤ v ∧ v ≤ 100) ov_long0 (r.toInt + 9) (ov_thrown.toInt + 4) → rp (fun k v => 0 ≤ v ∧ v ≤ 65535) ov_signs (r.toInt + 9) 400 → rp (fun k v => 0 ≤ v ∧ v ≤ 65535) ov_signs (r.toInt + 9) (ov_thrown.toInt + 400) → (zPt v_isSubject v_long0 p1.toInt p2.toInt ov_isSubject ov_long0) → Q r ov_thrown ov_isGoing ov_isSubject ov_long0 ov_signs) : w_X12_put_ p1 p2 p3 v_isGoing v_goSubject v_isSubject v_long0 v_signs Q := by
  have q_t : (bz true).toInt = 1 := rfl
  have q_f : (bz false).toInt = 0 := rfl
  have q_m9 : ((-9) : Int32).toInt = (-9) := rfl
  have q_m4 : ((-4) : Int32).toInt = (-4) := rfl
  have q_m2 : ((-2) : Int32).toInt = (-2) := rfl
  have q_0 : (0 : Int32).toInt = 0 := rfl
  have q_1 : (1 : Int32).toInt = 1 := rfl
  have q_3 : (3 : Int32).toInt = 3 := rfl
  have q_4 : (4 : Int32).toInt = 4 := rfl
  unfold w_X12_put_
  refine ok_X12_in  (fun r8 f1 f2 f3 f4 f5 f6 => ?_)
  refine ⟨fun c11 => ?_, fun c11 => ?_⟩
  · have f7 : r8.toInt ≠ 0 := i_ne (a := r8.toInt) (b := 0) rfl rfl c11
    refine ok_X12_in  (fun r20 f8 f9 f10 f11 f12 f13 => ?_)
    refine ⟨fun c23 => ?_, fun c23 => ?_⟩
    · have f14 : r20.toInt ≠ 0 := i_ne (a := r20.toInt) (b := 0) rfl rfl c23
      refine ⟨i_in (by omega) (by omega), ?_⟩
      intro x34 ex34
      have f15 : (0 ≤ x34.toInt ∧ x34.toInt ≤ 1) := i_bz ex34
      have j_48 : ∀ (s0_48 : Int32), ((s0_48.toInt = 0 ∧ x34.toInt = 0) ∨ (0 ≤ s0_48.toInt ∧ s0_48.toInt ≤ 100)) → (s0_48.toInt = zln v_isSubject v_long0 p1.toInt) → w_X12_put__48 p1 p2 p3 v_goSubject Q s0_48 0 v_isGoing v_isSubject v_long0 v_signs := by
        intro s0_48 f16 u48_0
        unfold w_X12_put__48
        intro x53 ex53
        have f17 : x53.toInt = s0_48.toInt + p2.toInt := i_add (a := s0_48.toInt) (b := p2.toInt) ex53 rfl rfl (by omega) (by omega)
        refine ⟨fun c56 => ?_, fun c56 => ?_⟩
        · have f18 : x53.toInt ≤ 100 := i_le (a := x53.toInt) (b := 100) rfl rfl c56
          have j_65 : ∀ n_65 : Nat, ∀ (l6_65 : Int32) (v_signs_65 : Nat → Int32), 0 ≤ l6_65.toInt → l6_65.toInt ≤ p2.toInt → rp (fun k v => 0 ≤ v ∧ v ≤ 65535) v_signs_65 0 400 → rp (fun k v => 0 ≤ v ∧ v ≤ 65535) v_signs_65 l6_65.toInt 400 → ((-1) * l6_65.toInt + 16).toNat < n_65 → w_X12_put__65 p1 p2 p3 v_goSubject Q s0_48 0 v_isGoing v_isSubject v_long0 n_65 l6_65 v_signs_65 := by
            intro n_65
            induction n_65 with
            | zero =>
              intro l6_65 v_signs_65 f19 f20 h21 h22 hm_65
              exfalso; omega
            | succ n_65 ih_65 =>
              intro l6_65 v_signs_65 f19 f20 h21 h22 hm_65
              unfold w_X12_put__65
              unfold w_X12_put__65B
              refine ⟨fun c68 => ?_, fun c68 => ?_⟩
              · have f23 : p2.toInt ≤ l6_65.toInt := i_le (a := p2.toInt) (b := l6_65.toInt) rfl rfl c68
                refine ⟨i_in (by omega) (by omega), ?_⟩
                intro g114 eg114
                intro x123 ex123
                have f24 : x123.toInt = s0_48.toInt + p2.toInt := i_add (a := s0_48.toInt) (b := p2.toInt) ex123 rfl rfl (by omega) (by omega)
                refine ⟨i_in (by omega) (by omega), ?_⟩
                intro g124 eg124
                have h25 : rp (fun k v => 0 ≤ v ∧ v ≤ 100) g124 0 4 := rp_upd (P := (fun k v => 0 ≤ v ∧ v ≤ 100)) (a := p1.toInt) (b := x123.toInt) b0 eg124 rfl rfl (by omega) ⟨(by omega), (by omega)⟩
                have f26 : (0 ≤ (bz v_isGoing).toInt ∧ (bz v_isGoing).toInt ≤ 1) := i_bzr v_isGoing
                have j_146 : ∀ (s0_146 : Int32), ((s0_146.toInt = 1) ∨ (s0_146.toInt = 0)) → (zPt v_isSubject v_long0 p1.toInt p2.toInt g114 g124) → w_X12_put__146 p2 Q s0_146 s0_48 0 v_isGoing g114 g124 v_signs_65 := by
                  intro s0_146 f27 u146_0
                  unfold w_X12_put__146
                  refine ⟨i_01 (by omega) (by omega), ?_⟩
                  intro b146 eb146
                  have f28 : (bz b146).toInt = s0_146.toInt := by rw [← eb146]
                  intro x152 ex152
                  have f29 : x152.toInt = s0_48.toInt + p2.toInt := i_add (a := s0_48.toInt) (b := p2.toInt) ex152 rfl rfl (by omega) (by omega)
                  exact hq x152 0 b146 g114 g124 v_signs_65 (by omega) (by omega) (by omega) (rp_mono h25 (by omega) (by omega)) (rp_mono h25 (by omega) (by omega)) (rp_mono h25 (by omega) (by omega)) (rp_mono h25 (by omega) (by omega)) (rp_mono h21 (by omega) (by omega)) (rp_mono h21 (by omega) (by omega)) (rp_mono h21 (by omega) (by omega)) (rp_mono h21 (by omega) (by omega)) (rp_mono h25 (by omega) (by omega)) (rp_mono h25 (by omega) (by omega)) (rp_mono h22 (by omega) (by omega)) (rp_mono h22 (by omega) (by omega)) (by assumption)
                have j_145 : (((bz v_isGoing).toInt = 0) ∨ (v_goSubject.toInt = p1.toInt)) → (zPt v_isSubject v_long0 p1.toInt p2.toInt g114 g124) → w_X12_put__145 p2 Q s0_48 0 v_isGoing g114 g124 v_signs_65 := by
                  intro f30 u145_0
                  unfold w_X12_put__145
                  exact j_146 0 (by omega) (by first | assumption | exact zPt_yes eg114 (by decide) eg124 u48_0 (by omega) (by omega) (by omega) (by omega))
                refine ⟨fun c130 => ?_, fun c130 => ?_⟩
                · have f31 : (bz v_isGoing).toInt = 0 := i_eq (a := (bz v_isGoing).toInt) (b := 0) rfl rfl c130
                  exact j_145  (by omega) (by exact zPt_yes eg114 (by decide) eg124 u48_0 (by omega) (by omega) (by omega) (by omega))
                · have f32 : (bz v_isGoing).toInt ≠ 0 := i_ne (a := (bz v_isGoing).toInt) (b := 0) rfl rfl c130
                  refine ⟨fun c138 => ?_, fun c138 => ?_⟩
                  · have f33 : v_goSubject.toInt = p1.toInt := i_eq (a := v_goSubject.toInt) (b := p1.toInt) rfl rfl c138
                    exact j_145  (by omega) (by exact zPt_yes eg114 (by decide) eg124 u48_0 (by omega) (by omega) (by omega) (by omega))
                  · have f34 : v_goSubject.toInt ≠ p1.toInt := i_ne (a := v_goSubject.toInt) (b := p1.toInt) rfl rfl c138
                    exact j_146 1 (by omega) (by first | assumption | exact zPt_yes eg114 (by decide) eg124 u48_0 (by omega) (by omega) (by omega) (by omega))
              · have f35 : l6_65.toInt < p2.toInt := i_nle (a := p2.toInt) (b := l6_65.toInt) rfl rfl c68
                intro x78 ex78
                have f36 : x78.toInt = 100 * p1.toInt := i_mul (a := 100) (b := p1.toInt) ex78 rfl rfl (by omega) (by omega)
                intro x81 ex81
                have f37 : x81.toInt = x78.toInt + s0_48.toInt := i_add (a := x78.toInt) (b := s0_48.toInt) ex81 rfl rfl (by omega) (by omega)
                intro x84 ex84
                have f38 : x84.toInt = x81.toInt + l6_65.toInt := i_add (a := x81.toInt) (b := l6_65.toInt) ex84 rfl rfl (by omega) (by omega)
                intro x90 ex90
                have f39 : x90.toInt = p2.toInt - 1 := i_sub (a := p2.toInt) (b := 1) ex90 rfl rfl (by omega) (by omega)
                intro x93 ex93
                have f40 : x93.toInt = x90.toInt - l6_65.toInt := i_sub (a := x90.toInt) (b := l6_65.toInt) ex93 rfl rfl (by omega) (by omega)
                intro x94 ex94
                have f41 : x94.toInt = 16 * x93.toInt := i_mul (a := 16) (b := x93.toInt) ex94 rfl rfl (by omega) (by omega)
                intro y95 ey95
                intro y99 ey99
                intro x100 ex100
                have f42 : 0 ≤ x100.toInt := (zl16 ey99 ex100).1
                have f43 : x100.toInt ≤ 65535 := (zl16 ey99 ex100).2
                refine ⟨i_in (by omega) (by omega), ?_⟩
                intro g101 eg101
                have h44 : rp (fun k v => 0 ≤ v ∧ v ≤ 65535) g101 0 400 := rp_upd (P := (fun k v => 0 ≤ v ∧ v ≤ 65535)) (a := x84.toInt) (b := x100.toInt) h21 eg101 rfl rfl (by omega) ⟨(by omega), (by omega)⟩
                have h45 : rp (fun k v => 0 ≤ v ∧ v ≤ 65535) g101 l6_65.toInt 400 := rp_upd (P := (fun k v => 0 ≤ v ∧ v ≤ 65535)) (a := x84.toInt) (b := x100.toInt) h22 eg101 rfl rfl (by omega) ⟨(by omega), (by omega)⟩
                intro x102 ex102
                have f46 : x102.toInt = l6_65.toInt + 1 := i_add (a := l6_65.toInt) (b := 1) ex102 rfl rfl (by omega) (by omega)
                exact ih_65 x102 g101 (by omega) (by omega) (rp_mono h44 (by omega) (by omega)) (rp_mono h45 (by omega) (by omega)) (by have h8_0 := i_rng l6_65; have h8_1 := i_rng x102; omega)
          exact ⟨(16 : Int).toNat + 1, j_65   ((16 : Int).toNat + 1) 0 v_signs (by omega) (by omega) (rp_mono b1 (by omega) (by omega)) (rp_mono b1 (by omega) (by omega)) (by omega)⟩
        · have f47 : 100 < x53.toInt := i_nle (a := x53.toInt) (b := 100) rfl rfl c56
          exact hq (-9) 0 v_isGoing v_isSubject v_long0 v_signs (by omega) (by omega) (by omega) (rp_mono b0 (by omega) (by omega)) (rp_mono b0 (by omega) (by omega)) (rp_mono b0 (by omega) (by omega)) (rp_mono b0 (by omega) (by omega)) (rp_mono b1 (by omega) (by omega)) (rp_mono b1 (by omega) (by omega)) (rp_mono b1 (by omega) (by omega)) (rp_mono b1 (by omega) (by omega)) (rp_mono b0 (by omega) (by omega)) (rp_mono b0 (by omega) (by omega)) (rp_mono b1 (by omega) (by omega)) (rp_mono b1 (by omega) (by omega)) (by exact zPt_full u48_0 (by omega))
      refine ⟨fun c35 => ?_, fun c35 => ?_⟩
      · have f48 : x34.toInt = 0 := i_eq (a := x34.toInt) (b := 0) rfl rfl c35
        exact j_48 0 (by omega) (by first | exact zln_t ex34 (by omega) ex43 | exact zln_f ex34 (by omega))
      · have f49 : x34.toInt ≠ 0 := i_ne (a := x34.toInt) (b := 0) rfl rfl c35
        refine ⟨i_in (by omega) (by omega), ?_⟩
        intro x43 ex43
        have f50 : 0 ≤ x43.toInt ∧ x43.toInt ≤ 100 := by have h9 := rp_get (P := (fun k v => 0 ≤ v ∧ v ≤ 100)) (a := p1.toInt) b0 ex43 rfl (by omega) (by omega) (by omega); omega
        exact j_48 x43 (by omega) (by first | exact zln_t ex34 (by omega) ex43 | exact zln_f ex34 (by omega))
    · have f51 : r20.toInt = 0 := i_eq (a := r20.toInt) (b := 0) rfl rfl c23
      exact hq (-4) 0 v_isGoing v_isSubject v_long0 v_signs (by omega) (by omega) (by omega) (rp_mono b0 (by omega) (by omega)) (rp_mono b0 (by omega) (by omega)) (rp_mono b0 (by omega) (by omega)) (rp_mono b0 (by omega) (by omega)) (rp_mono b1 (by omega) (by omega)) (rp_mono b1 (by omega) (by omega)) (rp_mono b1 (by omega) (by omega)) (rp_mono b1 (by omega) (by omega)) (rp_mono b0 (by omega) (by omega)) (rp_mono b0 (by omega) (by omega)) (rp_mono b1 (by omega) (by omega)) (rp_mono b1 (by omega) (by omega)) (by exact zPt_no (by omega))
  · have f52 : r8.toInt = 0 := i_eq (a := r8.toInt) (b := 0) rfl rfl c11
    exact hq (-2) 0 v_isGoing v_isSubject v_long0 v_signs (by omega) (by omega) (by omega) (rp_mono b0 (by omega) (by omega)) (rp_mono b0 (by omega) (by omega)) (rp_mono b0 (by omega) (by omega)) (rp_mono b0 (by omega) (by omega)) (rp_mono b1 (by omega) (by omega)) (rp_mono b1 (by omega) (by omega)) (rp_mono b1 (by omega) (by omega)) (rp_mono b1 (by omega) (by omega)) (rp_mono b0 (by omega) (by omega)) (rp_mono b0 (by omega) (by omega)) (rp_mono b1 (by omega) (by omega)) (rp_mono b1 (by omega) (by omega)) (by exact zPt_no (by omega))
set_option maxHeartbeats 4000000 in
theorem ok_X12_out {p1 : Int32} {v_thrown : Int32} {v_outMany : Int32} {v_out : Nat → Int32} {Q : Int32 → Int32 → Prop} (a0 : 0 ≤ v_outMany.toInt) (a1 : v_outMany.toInt ≤ 400) (hq : ∀ (r : Int32) (ov_thrown : Int32), ((1 ≤ ov_thrown.toInt) ∨ (0 ≤ p1.toInt)) → ((1 ≤ ov_thrown.toInt) ∨ (p1.toInt + 1 ≤ v_outMany.toInt)) → ((r.toInt = 0) ∨ (ov_thrown.toInt = 0)) → 0 ≤ ov_thrown.toInt → ov_thrown.toInt ≤ 1 → Q r ov_thrown) : w_X12_out p1 v_thrown v_outMany v_out Q := by
  have q_t : (bz true).toInt = 1 := rfl
  have q_f : (bz false).toInt = 0 := rfl
  have q_0 : (0 : Int32).toInt = 0 := rfl
  have q_1 : (1 : Int32).toInt = 1 := rfl
  unfold w_X12_out
  intro x8 ex8
  have f1 : x8.toInt = v_outMany.toInt - 1 := i_sub (a := v_outMany.toInt) (b := 1) ex8 rfl rfl (by omega) (by omega)
  refine ok_X12_in  (fun r9 f2 f3 f4 f5 f6 f7 => ?_)
  have j_20 : ∀ (s0_20 : Int32), ((1 ≤ s0_20.toInt) ∨ (0 ≤ p1.toInt)) → ((1 ≤ s0_20.toInt) ∨ (p1.toInt + 1 ≤ v_outMany.toInt)) → ((s0_20.toInt = 1 ∧ r9.toInt = 0) ∨ (s0_20.toInt = 0)) → w_X12_out_20 p1 v_out Q s0_20 v_thrown := by
    intro s0_20 f8 f9 f10
    unfold w_X12_out_20
    have j_40 : ∀ (s0_40 : Int32), ((s0_40.toInt = 0) ∨ (s0_20.toInt = 0)) → w_X12_out_40 Q s0_40 s0_20 := by
      intro s0_40 f11
      unfold w_X12_out_40
      exact hq s0_40 s0_20 (by omega) (by omega) (by omega) (by omega) (by omega)
    refine ⟨fun c27 => ?_, fun c27 => ?_⟩
    · have f12 : s0_20.toInt ≠ 0 := i_ne (a := s0_20.toInt) (b := 0) rfl rfl c27
      exact j_40 0 (by omega)
    · have f13 : s0_20.toInt = 0 := i_eq (a := s0_20.toInt) (b := 0) rfl rfl c27
      refine ⟨i_in (by omega) (by omega), ?_⟩
      intro x35 ex35
      exact j_40 x35 (by omega)
  refine ⟨fun c12 => ?_, fun c12 => ?_⟩
  · have f14 : r9.toInt = 0 := i_eq (a := r9.toInt) (b := 0) rfl rfl c12
    exact j_20 1 (by omega) (by omega) (by omega)
  · have f15 : r9.toInt ≠ 0 := i_ne (a := r9.toInt) (b := 0) rfl rfl c12
    exact j_20 0 (by omega) (by omega) (by omega)
set_option maxHeartbeats 4000000 in
theorem ok_X12_span {p1 : Int32} {p2 : Int32} {v_finding : Int32} {v_hasSpan : Bool} {v_spanCaptures : Int32} {v_span : Nat → Int32} {Q : Int32 → Int32 → Int32 → Prop} (a0 : 0 ≤ p2.toInt) (a1 : p2.toInt ≤ 1) (a2 : 0 ≤ v_spanCaptures.toInt) (a3 : v_spanCaptures.toInt ≤ 9) (hq : ∀ (r : Int32) (ov_thrown : Int32) (ov_finding : Int32), ov_thrown.toInt = 0 → ((r.toInt + 4 = 0 ∧ ov_finding.toInt = 1) ∨ (r.toInt + 2 = 0 ∧ ov_finding.toInt = v_finding.toInt ∧ (bz v_hasSpan).toInt = 0) ∨ (ov_finding.toInt = v_finding.toInt)) → Q r ov_thrown ov_finding) : w_X12_span p1 p2 v_finding v_hasSpan v_spanCaptures v_span Q := by
  have q_t : (bz true).toInt = 1 := rfl
  have q_f : (bz false).toInt = 0 := rfl
  have q_m4 : ((-4) : Int32).toInt = (-4) := rfl
  have q_m2 : ((-2) : Int32).toInt = (-2) := rfl
  have q_0 : (0 : Int32).toInt = 0 := rfl
  have q_1 : (1 : Int32).toInt = 1 := rfl
  unfold w_X12_span
  have f1 : (0 ≤ (bz v_hasSpan).toInt ∧ (bz v_hasSpan).toInt ≤ 1) := i_bzr v_hasSpan
  refine ⟨fun c9 => ?_, fun c9 => ?_⟩
  · have f2 : (bz v_hasSpan).toInt ≠ 0 := i_ne (a := (bz v_hasSpan).toInt) (b := 0) rfl rfl c9
    refine ok_X12_in  (fun r21 f3 f4 f5 f6 f7 f8 => ?_)
    refine ⟨fun c24 => ?_, fun c24 => ?_⟩
    · have f9 : r21.toInt ≠ 0 := i_ne (a := r21.toInt) (b := 0) rfl rfl c24
      intro x41 ex41
      have f10 : x41.toInt = 2 * p1.toInt := i_mul (a := 2) (b := p1.toInt) ex41 rfl rfl (by omega) (by omega)
      have j_51 : ∀ (s0_51 : Int32), ((s0_51.toInt = 0 ∧ p2.toInt = 0) ∨ (s0_51.toInt = 1)) → w_X12_span_51 v_span Q s0_51 x41 0 v_finding := by
        intro s0_51 f11
        unfold w_X12_span_51
        intro x51 ex51
        have f12 : x51.toInt = x41.toInt + s0_51.toInt := i_add (a := x41.toInt) (b := s0_51.toInt) ex51 rfl rfl (by omega) (by omega)
        refine ⟨i_in (by omega) (by omega), ?_⟩
        intro x52 ex52
        exact hq x52 0 v_finding (by omega) (by omega)
      refine ⟨fun c43 => ?_, fun c43 => ?_⟩
      · have f13 : p2.toInt = 0 := i_eq (a := p2.toInt) (b := 0) rfl rfl c43
        exact j_51 0 (by omega)
      · have f14 : p2.toInt ≠ 0 := i_ne (a := p2.toInt) (b := 0) rfl rfl c43
        exact j_51 1 (by omega)
    · have f15 : r21.toInt = 0 := i_eq (a := r21.toInt) (b := 0) rfl rfl c24
      exact hq (-4) 0 1 (by omega) (by omega)
  · have f16 : (bz v_hasSpan).toInt = 0 := i_eq (a := (bz v_hasSpan).toInt) (b := 0) rfl rfl c9
    exact hq (-2) 0 v_finding (by omega) (by omega)
set_option maxHeartbeats 4000000 in
theorem ok_X12_told {p1 : Int32} {v_taped : Int32} {v_outMany : Int32} {v_outNumbers : Bool} {v_isGoing : Bool} {v_hasSpan : Bool} {v_spanCaptures : Int32} {v_isThere : Nat → Bool} {v_isSubject : Nat → Bool} {Q : Int32 → Int32 → Prop} (a0 : 0 ≤ v_taped.toInt) (a1 : v_taped.toInt ≤ 200) (hq : ∀ (r : Int32) (ov_thrown : Int32), ov_thrown.toInt = 0 → Q r ov_thrown) : w_X12_told p1 v_taped v_outMany v_outNumbers v_isGoing v_hasSpan v_spanCaptures v_isThere v_isSubject Q := by
  have q_t : (bz true).toInt = 1 := rfl
  have q_f : (bz false).toInt = 0 := rfl
  have q_m4 : ((-4) : Int32).toInt = (-4) := rfl
  have q_0 : (0 : Int32).toInt = 0 := rfl
  have q_1 : (1 : Int32).toInt = 1 := rfl
  unfold w_X12_told
  have j_9 : ∀ n_9 : Nat, ∀ (l2_9 : Int32) (l3_9 : Int32), 0 ≤ l2_9.toInt → l2_9.toInt ≤ l3_9.toInt → l3_9.toInt ≤ 6 → ((-1) * l3_9.toInt + 6).toNat < n_9 → w_X12_told_9 p1 v_taped v_outMany v_outNumbers v_isGoing v_hasSpan v_spanCaptures v_isThere v_isSubject Q 0 n_9 l2_9 l3_9 := by
    intro n_9
    induction n_9 with
    | zero =>
      intro l2_9 l3_9 f1 f2 f3 hm_9
      exfalso; omega
    | succ n_9 ih_9 =>
      intro l2_9 l3_9 f1 f2 f3 hm_9
      unfold w_X12_told_9
      unfold w_X12_told_9B
      refine ⟨fun c12 => ?_, fun c12 => ?_⟩
      · have f4 : 6 ≤ l3_9.toInt := i_le (a := 6) (b := l3_9.toInt) rfl rfl c12
        have j_43 : ∀ n_43 : Nat, ∀ (l3_43 : Int32) (l4_43 : Int32), 0 ≤ l3_43.toInt → l3_43.toInt ≤ l4_43.toInt → l4_43.toInt ≤ 4 → ((-1) * l4_43.toInt + 4).toNat < n_43 → w_X12_told_43 p1 v_taped v_outMany v_outNumbers v_isGoing v_hasSpan v_spanCaptures v_isSubject Q l2_9 0 n_43 l3_43 l4_43 := by
          intro n_43
          induction n_43 with
          | zero =>
            intro l3_43 l4_43 f5 f6 f7 hm_43
            exfalso; omega
          | succ n_43 ih_43 =>
            intro l3_43 l4_43 f5 f6 f7 hm_43
            unfold w_X12_told_43
            unfold w_X12_told_43B
            refine ⟨fun c46 => ?_, fun c46 => ?_⟩
            · have f8 : 4 ≤ l4_43.toInt := i_le (a := 4) (b := l4_43.toInt) rfl rfl c46
              refine ⟨fun c74_0 => ?_, fun c74_1 => ?_, fun c74_2 => ?_, fun c74_3 => ?_, fun c74_4 => ?_, fun c74_5 => ?_, fun c74_6 => ?_, ?_⟩
              · have f9 : p1.toInt = 0 := i_eq (a := p1.toInt) (b := 0) rfl rfl c74_0
                exact hq v_taped 0 (by omega)
              · have f10 : p1.toInt = 1 := i_eq (a := p1.toInt) (b := 1) rfl rfl c74_1
                exact hq l2_9 0 (by omega)
              · have f11 : p1.toInt = 2 := i_eq (a := p1.toInt) (b := 2) rfl rfl c74_2
                exact hq l3_43 0 (by omega)
              · have f12 : p1.toInt = 3 := i_eq (a := p1.toInt) (b := 3) rfl rfl c74_3
                exact hq v_outMany 0 (by omega)
              · have f13 : p1.toInt = 4 := i_eq (a := p1.toInt) (b := 4) rfl rfl c74_4
                have f14 : (0 ≤ (bz v_outNumbers).toInt ∧ (bz v_outNumbers).toInt ≤ 1) := i_bzr v_outNumbers
                have j_142 : ∀ (s0_142 : Int32), ((s0_142.toInt = 0 ∧ (bz v_outNumbers).toInt = 0) ∨ (s0_142.toInt = 1)) → w_X12_told_142 Q s0_142 0 := by
                  intro s0_142 f15
                  unfold w_X12_told_142
                  exact hq s0_142 0 (by omega)
                refine ⟨fun c134 => ?_, fun c134 => ?_⟩
                · have f16 : (bz v_outNumbers).toInt = 0 := i_eq (a := (bz v_outNumbers).toInt) (b := 0) rfl rfl c134
                  exact j_142 0 (by omega)
                · have f17 : (bz v_outNumbers).toInt ≠ 0 := i_ne (a := (bz v_outNumbers).toInt) (b := 0) rfl rfl c134
                  exact j_142 1 (by omega)
              · have f18 : p1.toInt = 5 := i_eq (a := p1.toInt) (b := 5) rfl rfl c74_5
                have f19 : (0 ≤ (bz v_hasSpan).toInt ∧ (bz v_hasSpan).toInt ≤ 1) := i_bzr v_hasSpan
                have j_158 : ∀ (s0_158 : Int32), ((s0_158.toInt = 0 ∧ (bz v_hasSpan).toInt = 0) ∨ (s0_158.toInt = v_spanCaptures.toInt)) → w_X12_told_158 Q s0_158 0 := by
                  intro s0_158 f20
                  unfold w_X12_told_158
                  exact hq s0_158 0 (by omega)
                refine ⟨fun c147 => ?_, fun c147 => ?_⟩
                · have f21 : (bz v_hasSpan).toInt = 0 := i_eq (a := (bz v_hasSpan).toInt) (b := 0) rfl rfl c147
                  exact j_158 0 (by omega)
                · have f22 : (bz v_hasSpan).toInt ≠ 0 := i_ne (a := (bz v_hasSpan).toInt) (b := 0) rfl rfl c147
                  exact j_158 v_spanCaptures (by omega)
              · have f23 : p1.toInt = 6 := i_eq (a := p1.toInt) (b := 6) rfl rfl c74_6
                have f24 : (0 ≤ (bz v_isGoing).toInt ∧ (bz v_isGoing).toInt ≤ 1) := i_bzr v_isGoing
                have j_171 : ∀ (s0_171 : Int32), ((s0_171.toInt = 0 ∧ (bz v_isGoing).toInt = 0) ∨ (s0_171.toInt = 1)) → w_X12_told_171 Q s0_171 0 := by
                  intro s0_171 f25
                  unfold w_X12_told_171
                  exact hq s0_171 0 (by omega)
                refine ⟨fun c163 => ?_, fun c163 => ?_⟩
                · have f26 : (bz v_isGoing).toInt = 0 := i_eq (a := (bz v_isGoing).toInt) (b := 0) rfl rfl c163
                  exact j_171 0 (by omega)
                · have f27 : (bz v_isGoing).toInt ≠ 0 := i_ne (a := (bz v_isGoing).toInt) (b := 0) rfl rfl c163
                  exact j_171 1 (by omega)
              · intro c74_0 c74_1 c74_2 c74_3 c74_4 c74_5 c74_6
                have f28 : p1.toInt ≠ 0 := i_ne (a := p1.toInt) (b := 0) rfl rfl c74_0
                have f29 : p1.toInt ≠ 1 := i_ne (a := p1.toInt) (b := 1) rfl rfl c74_1
                have f30 : p1.toInt ≠ 2 := i_ne (a := p1.toInt) (b := 2) rfl rfl c74_2
                have f31 : p1.toInt ≠ 3 := i_ne (a := p1.toInt) (b := 3) rfl rfl c74_3
                have f32 : p1.toInt ≠ 4 := i_ne (a := p1.toInt) (b := 4) rfl rfl c74_4
                have f33 : p1.toInt ≠ 5 := i_ne (a := p1.toInt) (b := 5) rfl rfl c74_5
                have f34 : p1.toInt ≠ 6 := i_ne (a := p1.toInt) (b := 6) rfl rfl c74_6
                exact hq (-4) 0 (by omega)
            · have f35 : l4_43.toInt < 4 := i_nle (a := 4) (b := l4_43.toInt) rfl rfl c46
              refine ⟨i_in (by omega) (by omega), ?_⟩
              intro x56 ex56
              have f36 : (0 ≤ x56.toInt ∧ x56.toInt ≤ 1) := i_bz ex56
              have j_65 : ∀ (s0_65 : Int32), ((s0_65.toInt = 0 ∧ x56.toInt = 0) ∨ (s0_65.toInt = 1)) → w_X12_told_65 Q (w_X12_told_43 p1 v_taped v_outMany v_outNumbers v_isGoing v_hasSpan v_spanCaptures v_isSubject Q l2_9 0 n_43) s0_65 l3_43 l4_43 := by
                intro s0_65 f37
                unfold w_X12_told_65
                intro x65 ex65
                have f38 : x65.toInt = l3_43.toInt + s0_65.toInt := i_add (a := l3_43.toInt) (b := s0_65.toInt) ex65 rfl rfl (by omega) (by omega)
                intro x67 ex67
                have f39 : x67.toInt = l4_43.toInt + 1 := i_add (a := l4_43.toInt) (b := 1) ex67 rfl rfl (by omega) (by omega)
                exact ih_43 x65 x67 (by omega) (by omega) (by omega) (by have h8_0 := i_rng l4_43; have h8_1 := i_rng x67; omega)
              refine ⟨fun c57 => ?_, fun c57 => ?_⟩
              · have f40 : x56.toInt = 0 := i_eq (a := x56.toInt) (b := 0) rfl rfl c57
                exact j_65 0 (by omega)
              · have f41 : x56.toInt ≠ 0 := i_ne (a := x56.toInt) (b := 0) rfl rfl c57
                exact j_65 1 (by omega)
        exact ⟨(4 : Int).toNat + 1, j_43   ((4 : Int).toNat + 1) 0 0 (by omega) (by omega) (by omega) (by omega)⟩
      · have f42 : l3_9.toInt < 6 := i_nle (a := 6) (b := l3_9.toInt) rfl rfl c12
        refine ⟨i_in (by omega) (by omega), ?_⟩
        intro x21 ex21
        have f43 : (0 ≤ x21.toInt ∧ x21.toInt ≤ 1) := i_bz ex21
        have j_30 : ∀ (s0_30 : Int32), ((s0_30.toInt = 0 ∧ x21.toInt = 0) ∨ (s0_30.toInt = 1)) → w_X12_told_30 Q (w_X12_told_9 p1 v_taped v_outMany v_outNumbers v_isGoing v_hasSpan v_spanCaptures v_isThere v_isSubject Q 0 n_9) s0_30 l2_9 l3_9 := by
          intro s0_30 f44
          unfold w_X12_told_30
          intro x30 ex30
          have f45 : x30.toInt = l2_9.toInt + s0_30.toInt := i_add (a := l2_9.toInt) (b := s0_30.toInt) ex30 rfl rfl (by omega) (by omega)
          intro x32 ex32
          have f46 : x32.toInt = l3_9.toInt + 1 := i_add (a := l3_9.toInt) (b := 1) ex32 rfl rfl (by omega) (by omega)
          exact ih_9 x30 x32 (by omega) (by omega) (by omega) (by have h8_0 := i_rng l3_9; have h8_1 := i_rng x32; omega)
        refine ⟨fun c22 => ?_, fun c22 => ?_⟩
        · have f47 : x21.toInt = 0 := i_eq (a := x21.toInt) (b := 0) rfl rfl c22
          exact j_30 0 (by omega)
        · have f48 : x21.toInt ≠ 0 := i_ne (a := x21.toInt) (b := 0) rfl rfl c22
          exact j_30 1 (by omega)
  exact ⟨(6 : Int).toNat + 1, j_9   ((6 : Int).toNat + 1) 0 0 (by omega) (by omega) (by omega) (by omega)⟩
set_option maxHeartbeats 4000000 in
theorem ok_X12_sign {p1 : Int32} {p2 : Int32} {v_thrown : Int32} {v_isSubject : Nat → Bool} {v_long0 : Nat → Int32} {v_signs : Nat → Int32} {Q : Int32 → Int32 → Prop} (b0 : rp (fun k v => 0 ≤ v ∧ v ≤ 100) v_long0 0 4) (b1 : rp (fun k v => 0 ≤ v ∧ v ≤ 65535) v_signs 0 400) (hq : ∀ (r : Int32) (ov_thrown : Int32), ((1 ≤ ov_thrown.toInt) ∨ (0 ≤ p1.toInt)) → ((1 ≤ ov_thrown.toInt) ∨ (p1.toInt ≤ 3)) → ((1 ≤ ov_thrown.toInt) ∨ (0 ≤ p2.toInt)) → ((1 ≤ ov_thrown.toInt) ∨ (p2.toInt ≤ 99)) → 0 ≤ ov_thrown.toInt → ov_thrown.toInt ≤ 2 → ((1 ≤ r.toInt) ∨ (0 ≤ p1.toInt)) → ((1 ≤ r.toInt) ∨ (p1.toInt ≤ 3)) → ((1 ≤ r.toInt) ∨ (0 ≤ p2.toInt)) → ((1 ≤ r.toInt) ∨ (p2.toInt ≤ 99)) → ((r.toInt = 32) ∨ (ov_thrown.toInt = 0 ∧ 0 ≤ r.toInt ∧ r.toInt ≤ 65535)) → Q r ov_thrown) : w_X12_sign p1 p2 v_thrown v_isSubject v_long0 v_signs Q := by
  have q_t : (bz true).toInt = 1 := rfl
  have q_f : (bz false).toInt = 0 := rfl
  have q_0 : (0 : Int32).toInt = 0 := rfl
  have q_1 : (1 : Int32).toInt = 1 := rfl
  have q_2 : (2 : Int32).toInt = 2 := rfl
  have q_3 : (3 : Int32).toInt = 3 := rfl
  have q_32 : (32 : Int32).toInt = 32 := rfl
  unfold w_X12_sign
  refine ok_X12_in  (fun r4 f1 f2 f3 f4 f5 f6 => ?_)
  have j_48 : ∀ (s0_48 : Int32), ((1 ≤ s0_48.toInt) ∨ (0 ≤ p1.toInt)) → ((1 ≤ s0_48.toInt) ∨ (p1.toInt ≤ 3)) → ((1 ≤ s0_48.toInt) ∨ (0 ≤ p2.toInt)) → ((1 ≤ s0_48.toInt) ∨ (p2.toInt ≤ 99)) → 0 ≤ s0_48.toInt → s0_48.toInt ≤ 2 → w_X12_sign_48 p1 p2 v_signs Q s0_48 v_thrown := by
    intro s0_48 f7 f8 f9 f10 f11 f12
    unfold w_X12_sign_48
    have j_75 : ∀ (s0_75 : Int32), ((1 ≤ s0_75.toInt) ∨ (0 ≤ p1.toInt)) → ((1 ≤ s0_75.toInt) ∨ (p1.toInt ≤ 3)) → ((1 ≤ s0_75.toInt) ∨ (0 ≤ p2.toInt)) → ((1 ≤ s0_75.toInt) ∨ (p2.toInt ≤ 99)) → ((s0_75.toInt = 32) ∨ (s0_48.toInt = 0 ∧ 0 ≤ s0_75.toInt ∧ s0_75.toInt ≤ 65535)) → (chr s0_75) → w_X12_sign_75 Q s0_75 s0_48 := by
      intro s0_75 f13 f14 f15 f16 f17 u75_0
      unfold w_X12_sign_75
      refine ⟨by first | assumption | decide, ?_⟩
      exact hq s0_75 s0_48 (by omega) (by omega) (by omega) (by omega) (by omega) (by omega) (by omega) (by omega) (by omega) (by omega) (by first | assumption | omega)
    refine ⟨fun c55 => ?_, fun c55 => ?_⟩
    · have f18 : s0_48.toInt ≠ 0 := i_ne (a := s0_48.toInt) (b := 0) rfl rfl c55
      exact j_75 32 (by omega) (by omega) (by omega) (by omega) (by omega) (by first | exact zchr ex69 | (unfold chr; decide))
    · have f19 : s0_48.toInt = 0 := i_eq (a := s0_48.toInt) (b := 0) rfl rfl c55
      intro x65 ex65
      have f20 : x65.toInt = 100 * p1.toInt := i_mul (a := 100) (b := p1.toInt) ex65 rfl rfl (by omega) (by omega)
      intro x67 ex67
      have f21 : x67.toInt = x65.toInt + p2.toInt := i_add (a := x65.toInt) (b := p2.toInt) ex67 rfl rfl (by omega) (by omega)
      refine ⟨i_in (by omega) (by omega), ?_⟩
      intro x68 ex68
      have f22 : 0 ≤ x68.toInt ∧ x68.toInt ≤ 65535 := by have h9 := rp_get (P := (fun k v => 0 ≤ v ∧ v ≤ 65535)) (a := x67.toInt) b1 ex68 rfl (by omega) (by omega) (by omega); omega
      intro x69 ex69
      have f23 : (0 ≤ x69.toInt ∧ x69.toInt ≤ 65535) := by have h9 := i_chr ex69; omega
      exact j_75 x69 (by omega) (by omega) (by omega) (by omega) (by omega) (by first | exact zchr ex69 | (unfold chr; decide))
  refine ⟨fun c7 => ?_, fun c7 => ?_⟩
  · have f24 : r4.toInt ≠ 0 := i_ne (a := r4.toInt) (b := 0) rfl rfl c7
    refine ⟨i_in (by omega) (by omega), ?_⟩
    intro x19 ex19
    have f25 : (0 ≤ x19.toInt ∧ x19.toInt ≤ 1) := i_bz ex19
    refine ⟨fun c20 => ?_, fun c20 => ?_⟩
    · have f26 : x19.toInt ≠ 0 := i_ne (a := x19.toInt) (b := 0) rfl rfl c20
      refine ⟨i_in (by omega) (by omega), ?_⟩
      intro x34 ex34
      have f27 : 0 ≤ x34.toInt ∧ x34.toInt ≤ 100 := by have h9 := rp_get (P := (fun k v => 0 ≤ v ∧ v ≤ 100)) (a := p1.toInt) b0 ex34 rfl (by omega) (by omega) (by omega); omega
      intro x36 ex36
      have f28 : x36.toInt = x34.toInt - 1 := i_sub (a := x34.toInt) (b := 1) ex36 rfl rfl (by omega) (by omega)
      refine ok_X12_in  (fun r37 f29 f30 f31 f32 f33 f34 => ?_)
      refine ⟨fun c40 => ?_, fun c40 => ?_⟩
      · have f35 : r37.toInt ≠ 0 := i_ne (a := r37.toInt) (b := 0) rfl rfl c40
        exact j_48 0 (by omega) (by omega) (by omega) (by omega) (by omega) (by omega)
      · have f36 : r37.toInt = 0 := i_eq (a := r37.toInt) (b := 0) rfl rfl c40
        exact j_48 2 (by omega) (by omega) (by omega) (by omega) (by omega) (by omega)
    · have f37 : x19.toInt = 0 := i_eq (a := x19.toInt) (b := 0) rfl rfl c20
      exact j_48 1 (by omega) (by omega) (by omega) (by omega) (by omega) (by omega)
  · have f38 : r4.toInt = 0 := i_eq (a := r4.toInt) (b := 0) rfl rfl c7
    exact j_48 2 (by omega) (by omega) (by omega) (by omega) (by omega) (by omega)
set_option maxHeartbeats 4000000 in
theorem ok_X12_place {v_faultPlace : Int32} {Q : Int32 → Int32 → Prop} (hq : ∀ (r : Int32) (ov_thrown : Int32), r.toInt = v_faultPlace.toInt → ov_thrown.toInt = 0 → Q r ov_thrown) : w_X12_place v_faultPlace Q := by
  have q_t : (bz true).toInt = 1 := rfl
  have q_f : (bz false).toInt = 0 := rfl
  have q_0 : (0 : Int32).toInt = 0 := rfl
  unfold w_X12_place
  exact hq v_faultPlace 0 (by omega) (by omega)
set_option maxHeartbeats 4000000 in
theorem ok_X12_steps {v_steps : Int32} {Q : Int32 → Int32 → Prop} (hq : ∀ (r : Int32) (ov_thrown : Int32), r.toInt = v_steps.toInt → ov_thrown.toInt = 0 → Q r ov_thrown) : w_X12_steps v_steps Q := by
  have q_t : (bz true).toInt = 1 := rfl
  have q_f : (bz false).toInt = 0 := rfl
  have q_0 : (0 : Int32).toInt = 0 := rfl
  unfold w_X12_steps
  exact hq v_steps 0 (by omega) (by omega)
set_option maxHeartbeats 4000000 in
theorem ok_X12_finding {v_finding : Int32} {Q : Int32 → Int32 → Prop} (hq : ∀ (r : Int32) (ov_thrown : Int32), r.toInt = v_finding.toInt → ov_thrown.toInt = 0 → Q r ov_thrown) : w_X12_finding v_finding Q := by
  have q_t : (bz true).toInt = 1 := rfl
  have q_f : (bz false).toInt = 0 := rfl
  have q_0 : (0 : Int32).toInt = 0 := rfl
  unfold w_X12_finding
  exact hq v_finding 0 (by omega) (by omega)
set_option maxHeartbeats 4000000 in
theorem ok_X12_drop {p1 : Int32} {v_finding : Int32} {v_isGoing : Bool} {v_goSubject : Int32} {v_isSubject : Nat → Bool} {v_long0 : Nat → Int32} {Q : Int32 → Int32 → Int32 → Bool → (Nat → Bool) → Prop} (a0 : 0 ≤ v_goSubject.toInt) (a1 : v_goSubject.toInt ≤ 3) (b0 : rp (fun k v => 0 ≤ v ∧ v ≤ 100) v_long0 0 4) (hq : ∀ (r : Int32) (ov_thrown : Int32) (ov_finding : Int32) (ov_isGoing : Bool) (ov_isSubject : Nat → Bool), ov_thrown.toInt = 0 → (((bz ov_isGoing).toInt = (bz v_isGoing).toInt) ∨ (0 ≤ (bz v_isGoing).toInt ∧ (bz v_isGoing).toInt ≤ 1 ∧ 0 ≤ r.toInt ∧ r.toInt ≤ 100)) → 0 ≤ r.toInt + 3 → r.toInt ≤ 100 → (zDr v_isSubject v_long0 p1.toInt r.toInt ov_isSubject) → Q r ov_thrown ov_finding ov_isGoing ov_isSubject) : w_X12_drop p1 v_finding v_isGoing v_goSubject v_isSubject v_long0 Q := by
  have q_t : (bz true).toInt = 1 := rfl
  have q_f : (bz false).toInt = 0 := rfl
  have q_0 : (0 : Int32).toInt = 0 := rfl
  have q_1 : (1 : Int32).toInt = 1 := rfl
  unfold w_X12_drop
  refine ok_X12_wrongSubject  (fun r7 r7_0 f1 f2 f3 u7_0 u7_1 u7_2 => ?_)
  refine ⟨fun c12 => ?_, fun c12 => ?_⟩
  · have f4 : r7.toInt = 0 := i_eq (a := r7.toInt) (b := 0) rfl rfl c12
    refine ⟨i_in (by omega) (by omega), ?_⟩
    intro g23 eg23
    have f5 : (0 ≤ (bz v_isGoing).toInt ∧ (bz v_isGoing).toInt ≤ 1) := i_bzr v_isGoing
    have j_45 : ∀ (s0_45 : Int32), ((s0_45.toInt = 1) ∨ (s0_45.toInt = 0)) → w_X12_drop_45 p1 v_long0 Q s0_45 0 r7_0 v_isGoing g23 := by
      intro s0_45 f6
      unfold w_X12_drop_45
      refine ⟨i_01 (by omega) (by omega), ?_⟩
      intro b45 eb45
      have f7 : (bz b45).toInt = s0_45.toInt := by rw [← eb45]
      refine ⟨i_in (by omega) (by omega), ?_⟩
      intro x53 ex53
      have f8 : 0 ≤ x53.toInt ∧ x53.toInt ≤ 100 := by have h9 := rp_get (P := (fun k v => 0 ≤ v ∧ v ≤ 100)) (a := p1.toInt) b0 ex53 rfl (by omega) (by omega) (by omega); omega
      exact hq x53 0 r7_0 b45 g23 (by omega) (by omega) (by omega) (by omega) (by exact zDr_y u7_0 (by omega) eg23 (by decide) ex53 (by omega))
    have j_44 : (((bz v_isGoing).toInt = 0) ∨ (v_goSubject.toInt = p1.toInt)) → w_X12_drop_44 p1 v_long0 Q 0 r7_0 v_isGoing g23 := by
      intro f9
      unfold w_X12_drop_44
      exact j_45 0 (by omega)
    refine ⟨fun c29 => ?_, fun c29 => ?_⟩
    · have f10 : (bz v_isGoing).toInt = 0 := i_eq (a := (bz v_isGoing).toInt) (b := 0) rfl rfl c29
      exact j_44  (by omega)
    · have f11 : (bz v_isGoing).toInt ≠ 0 := i_ne (a := (bz v_isGoing).toInt) (b := 0) rfl rfl c29
      refine ⟨fun c37 => ?_, fun c37 => ?_⟩
      · have f12 : v_goSubject.toInt = p1.toInt := i_eq (a := v_goSubject.toInt) (b := p1.toInt) rfl rfl c37
        exact j_44  (by omega)
      · have f13 : v_goSubject.toInt ≠ p1.toInt := i_ne (a := v_goSubject.toInt) (b := p1.toInt) rfl rfl c37
        exact j_45 1 (by omega)
  · have f14 : r7.toInt ≠ 0 := i_ne (a := r7.toInt) (b := 0) rfl rfl c12
    exact hq r7 0 r7_0 v_isGoing v_isSubject (by omega) (by omega) (by omega) (by omega) (by exact zDr_w (by omega) (by omega) u7_1 u7_2)
set_option maxHeartbeats 4000000 in
theorem ok_X12_clear {v_finding : Int32} {v_taped : Int32} {v_faultPlace : Int32} {v_outMany : Int32} {v_outNumbers : Bool} {v_steps : Int32} {v_isGoing : Bool} {v_hasSpan : Bool} {v_isThere : Nat → Bool} {v_isSubject : Nat → Bool} {v_many : Nat → Int32} {v_captures : Nat → Int32} {v_sort : Nat → Int32} {v_value : Nat → Int32} {v_least : Nat → Int32} {v_most : Nat → Int32} {v_holder : Nat → Int32} {v_parts : Nat → Int32} {v_end : Nat → Int32} {v_firstPart : Nat → Int32} {v_partBegin : Nat → Int32} {v_partEnd : Nat → Int32} {v_size : Nat → Int32} {v_positions : Nat → Int32} {v_goSlot : Int32} {Q : Int32 → Int32 → Int32 → Int32 → Int32 → Int32 → Bool → Int32 → Bool → Bool → (Nat → Bool) → (Nat → Bool) → Prop} (a0 : 0 ≤ v_taped.toInt) (a1 : v_taped.toInt ≤ 200) (hq : ∀ (r : Int32) (ov_thrown : Int32) (ov_finding : Int32) (ov_taped : Int32) (ov_faultPlace : Int32) (ov_outMany : Int32) (ov_outNumbers : Bool) (ov_steps : Int32) (ov_isGoing : Bool) (ov_hasSpan : Bool) (ov_isThere : Nat → Bool) (ov_isSubject : Nat → Bool), ov_thrown.toInt = 0 → ov_finding.toInt = 0 → ov_taped.toInt = 0 → ov_faultPlace.toInt + 1 = 0 → ov_outMany.toInt = 0 → (bz ov_outNumbers).toInt = 0 → ov_steps.toInt = 0 → (bz ov_isGoing).toInt = 0 → (bz ov_hasSpan).toInt = 0 → 0 ≤ r.toInt + 1 → 0 ≤ r.toInt → r.toInt ≤ 6 → r.toInt ≤ 7 → (zAll ov_isThere v_many v_captures v_sort v_value v_least v_most v_holder v_parts v_end v_firstPart v_partBegin v_partEnd v_size v_positions) → (zGo ov_isGoing ov_isThere v_goSlot.toInt) → (∀ j : Int, 0 ≤ j → j < 4 → ov_isSubject j.toNat = false) → Q r ov_thrown ov_finding ov_taped ov_faultPlace ov_outMany ov_outNumbers ov_steps ov_isGoing ov_hasSpan ov_isThere ov_isSubject) : w_X12_clear v_finding v_taped v_faultPlace v_outMany v_outNumbers v_steps v_isGoing v_hasSpan v_isThere v_isSubject Q := by
  have q_t : (bz true).toInt = 1 := rfl
  have q_f : (bz false).toInt = 0 := rfl
  have q_m1 : ((-1) : Int32).toInt = (-1) := rfl
  have q_0 : (0 : Int32).toInt = 0 := rfl
  have q_1 : (1 : Int32).toInt = 1 := rfl
  unfold w_X12_clear
  have j_9 : ∀ n_9 : Nat, ∀ (l1_9 : Int32) (l2_9 : Int32) (v_isThere_9 : Nat → Bool), 0 ≤ l1_9.toInt → l1_9.toInt ≤ l2_9.toInt → l2_9.toInt ≤ 6 → (zOff v_isThere_9 l2_9.toInt) → ((-1) * l2_9.toInt + 6).toNat < n_9 → w_X12_clear_9 Q 0 v_finding v_taped v_faultPlace v_outMany v_outNumbers v_steps v_isGoing v_hasSpan v_isSubject n_9 l1_9 l2_9 v_isThere_9 := by
    intro n_9
    induction n_9 with
    | zero =>
      intro l1_9 l2_9 v_isThere_9 f1 f2 f3 u9_0 hm_9
      exfalso; omega
    | succ n_9 ih_9 =>
      intro l1_9 l2_9 v_isThere_9 f1 f2 f3 u9_0 hm_9
      unfold w_X12_clear_9
      unfold w_X12_clear_9B
      refine ⟨fun c12 => ?_, fun c12 => ?_⟩
      · have f4 : 6 ≤ l2_9.toInt := i_le (a := 6) (b := l2_9.toInt) rfl rfl c12
        have j_47 : ∀ n_47 : Nat, ∀ (l2_47 : Int32) (v_isSubject_47 : Nat → Bool), 0 ≤ l2_47.toInt → l2_47.toInt ≤ 4 → (zOff v_isSubject_47 l2_47.toInt) → ((-1) * l2_47.toInt + 4).toNat < n_47 → w_X12_clear_47 Q l1_9 0 v_finding v_taped v_faultPlace v_outMany v_outNumbers v_steps v_isGoing v_hasSpan v_isThere_9 n_47 l2_47 v_isSubject_47 := by
          intro n_47
          induction n_47 with
          | zero =>
            intro l2_47 v_isSubject_47 f5 f6 u47_0 hm_47
            exfalso; omega
          | succ n_47 ih_47 =>
            intro l2_47 v_isSubject_47 f5 f6 u47_0 hm_47
            unfold w_X12_clear_47
            unfold w_X12_clear_47B
            refine ⟨fun c49 => ?_, fun c49 => ?_⟩
            · have f7 : 4 ≤ l2_47.toInt := i_le (a := 4) (b := l2_47.toInt) rfl rfl c49
              exact hq l1_9 0 0 0 (-1) 0 false 0 false false v_isThere_9 v_isSubject_47 (by omega) (by omega) (by omega) (by omega) (by omega) (by omega) (by omega) (by omega) (by omega) (by omega) (by omega) (by omega) (by omega) (by exact zAll_no u9_0 (by omega)) (by exact zGo_no) (by exact fun j j0 j1 => u47_0 j j0 (by omega))
            · have f8 : l2_47.toInt < 4 := i_nle (a := 4) (b := l2_47.toInt) rfl rfl c49
              refine ⟨i_in (by omega) (by omega), ?_⟩
              intro g58 eg58
              intro x59 ex59
              have f9 : x59.toInt = l2_47.toInt + 1 := i_add (a := l2_47.toInt) (b := 1) ex59 rfl rfl (by omega) (by omega)
              exact ih_47 x59 g58 (by omega) (by omega) (by first | exact zOff_0 | exact zOff_s u47_0 eg58 (by decide) (by omega) (by omega)) (by have h8_0 := i_rng l2_47; have h8_1 := i_rng x59; omega)
        exact ⟨(4 : Int).toNat + 1, j_47   ((4 : Int).toNat + 1) 0 v_isSubject (by omega) (by omega) (by first | exact zOff_0 | exact zOff_s u47_0 eg58 (by decide) (by omega) (by omega)) (by omega)⟩
      · have f10 : l2_9.toInt < 6 := i_nle (a := 6) (b := l2_9.toInt) rfl rfl c12
        refine ⟨i_in (by omega) (by omega), ?_⟩
        intro x21 ex21
        have f11 : (0 ≤ x21.toInt ∧ x21.toInt ≤ 1) := i_bz ex21
        have j_30 : ∀ (s0_30 : Int32), ((s0_30.toInt = 0 ∧ x21.toInt = 0) ∨ (s0_30.toInt = 1)) → w_X12_clear_30 Q (w_X12_clear_9 Q 0 v_finding v_taped v_faultPlace v_outMany v_outNumbers v_steps v_isGoing v_hasSpan v_isSubject n_9) s0_30 l1_9 l2_9 v_isThere_9 := by
          intro s0_30 f12
          unfold w_X12_clear_30
          intro x30 ex30
          have f13 : x30.toInt = l1_9.toInt + s0_30.toInt := i_add (a := l1_9.toInt) (b := s0_30.toInt) ex30 rfl rfl (by omega) (by omega)
          refine ⟨i_in (by omega) (by omega), ?_⟩
          intro g38 eg38
          intro x39 ex39
          have f14 : x39.toInt = l2_9.toInt + 1 := i_add (a := l2_9.toInt) (b := 1) ex39 rfl rfl (by omega) (by omega)
          exact ih_9 x30 x39 g38 (by omega) (by omega) (by omega) (by first | exact zOff_0 | exact zOff_s u9_0 eg38 (by decide) (by omega) (by omega)) (by have h8_0 := i_rng l2_9; have h8_1 := i_rng x39; omega)
        refine ⟨fun c22 => ?_, fun c22 => ?_⟩
        · have f15 : x21.toInt = 0 := i_eq (a := x21.toInt) (b := 0) rfl rfl c22
          exact j_30 0 (by omega)
        · have f16 : x21.toInt ≠ 0 := i_ne (a := x21.toInt) (b := 0) rfl rfl c22
          exact j_30 1 (by omega)
  exact ⟨(6 : Int).toNat + 1, j_9   ((6 : Int).toNat + 1) 0 0 v_isThere (by omega) (by omega) (by omega) (by first | exact zOff_0 | exact zOff_s u9_0 eg38 (by decide) (by omega) (by omega)) (by omega)⟩
set_option maxHeartbeats 4000000 in
theorem ok_X12_pattern {p1 : Int32} {v_taped : Int32} {v_faultPlace : Int32} {v_newNodes : Int32} {v_newParts : Int32} {v_fault : Int32} {v_faultAt : Int32} {v_at : Int32} {v_items : Int32} {v_newCaptures : Int32} {v_depth : Int32} {v_memberValue : Int32} {v_memberEnd : Int32} {v_loopLeast : Int32} {v_loopMost : Int32} {v_isGoing : Bool} {v_goSlot : Int32} {v_tape : Nat → Int32} {v_isThere : Nat → Bool} {v_many : Nat → Int32} {v_captures : Nat → Int32} {v_nameOf : Nat → Int32} {v_sort : Nat → Int32} {v_value : Nat → Int32} {v_least : Nat → Int32} {v_most : Nat → Int32} {v_holder : Nat → Int32} {v_parts : Nat → Int32} {v_end : Nat → Int32} {v_size : Nat → Int32} {v_positions : Nat → Int32} {v_firstPart : Nat → Int32} {v_mayEmpty : Nat → Bool} {v_inCase : Nat → Bool} {v_partBegin : Nat → Int32} {v_partEnd : Nat → Int32} {v_newSort : Nat → Int32} {v_newValue : Nat → Int32} {v_newLeast : Nat → Int32} {v_newMost : Nat → Int32} {v_newFirst : Nat → Int32} {v_newNext : Nat → Int32} {v_newMany : Nat → Int32} {v_newPart : Nat → Int32} {v_newBegin : Nat → Int32} {v_newEnd : Nat → Int32} {v_newNames : Nat → Int32} {v_groupSort : Nat → Int32} {v_groupValue : Nat → Int32} {v_rowFirst : Nat → Int32} {v_rowLast : Nat → Int32} {v_rowMany : Nat → Int32} {v_rowsFirst : Nat → Int32} {v_rowsLast : Nat → Int32} {v_rowsMany : Nat → Int32} {v_waiting : Nat → Int32} {v_waitingHolder : Nat → Int32} {Q : Int32 → Int32 → Int32 → Int32 → Int32 → Int32 → Int32 → Int32 → Int32 → Int32 → Int32 → Int32 → Int32 → Int32 → Int32 → Int32 → Bool → (Nat → Bool) → (Nat → Int32) → (Nat → Int32) → (Nat → Int32) → (Nat → Int32) → (Nat → Int32) → (Nat → Int32) → (Nat → Int32) → (Nat → Int32) → (Nat → Int32) → (Nat → Int32) → (Nat → Int32) → (Nat → Int32) → (Nat → Int32) → (Nat → Bool) → (Nat → Bool) → (Nat → Int32) → (Nat → Int32) → (Nat → Int32) → (Nat → Int32) → (Nat → Int32) → (Nat → Int32) → (Nat → Int32) → (Nat → Int32) → (Nat → Int32) → (Nat → Int32) → (Nat → Int32) → (Nat → Int32) → (Nat → Int32) → (Nat → Int32) → (Nat → Int32) → (Nat → Int32) → (Nat → Int32) → (Nat → Int32) → (Nat → Int32) → (Nat → Int32) → (Nat → Int32) → (Nat → Int32) → (Nat → Int32) → Prop} (a0 : 0 ≤ v_taped.toInt) (a1 : v_taped.toInt ≤ 200) (a2 : 0 ≤ v_goSlot.toInt) (a3 : v_goSlot.toInt ≤ 5) (b0 : rp (fun k v => 32 ≤ v ∧ v ≤ 126) v_tape 0 v_taped.toInt) (b1 : qp2 (fun k m l => (m = 0) ∨ (0 ≤ l ∧ l ≤ 259)) v_rowMany v_rowFirst 0 12) (b2 : qp2 (fun k m l => (m = 0) ∨ (0 ≤ l ∧ l ≤ 259)) v_rowsMany v_rowsFirst 0 12) (b3 : qp2 (fun k m l => (m = 0) ∨ (0 ≤ l ∧ l ≤ 259)) v_rowMany v_rowLast 0 12) (b4 : qp2 (fun k m l => (m = 0) ∨ (0 ≤ l ∧ l ≤ 259)) v_rowsMany v_rowsLast 0 12) (b5 : rp (fun k v => -1 ≤ v ∧ v ≤ 259) v_rowFirst 0 12) (b6 : rp (fun k v => -1 ≤ v ∧ v ≤ 259) v_rowLast 0 12) (b7 : rp (fun k v => -1 ≤ v ∧ v ≤ 259) v_rowsFirst 0 12) (b8 : rp (fun k v => -1 ≤ v ∧ v ≤ 259) v_rowsLast 0 12) (u0 : zAll v_isThere v_many v_captures v_sort v_value v_least v_most v_holder v_parts v_end v_firstPart v_partBegin v_partEnd v_size v_positions) (u1 : zGo v_isGoing v_isThere v_goSlot.toInt) (hq : ∀ (r : Int32) (ov_thrown : Int32) (ov_taped : Int32) (ov_faultPlace : Int32) (ov_newNodes : Int32) (ov_newParts : Int32) (ov_fault : Int32) (ov_faultAt : Int32) (ov_at : Int32) (ov_items : Int32) (ov_newCaptures : Int32) (ov_depth : Int32) (ov_memberValue : Int32) (ov_memberEnd : Int32) (ov_loopLeast : Int32) (ov_loopMost : Int32) (ov_isGoing : Bool) (ov_isThere : Nat → Bool) (ov_many : Nat → Int32) (ov_captures : Nat → Int32) (ov_nameOf : Nat → Int32) (ov_sort : Nat → Int32) (ov_value : Nat → Int32) (ov_least : Nat → Int32) (ov_most : Nat → Int32) (ov_holder : Nat → Int32) (ov_parts : Nat → Int32) (ov_end : Nat → Int32) (ov_size : Nat → Int32) (ov_positions : Nat → Int32) (ov_firstPart : Nat → Int32) (ov_mayEmpty : Nat → Bool) (ov_inCase : Nat → Bool) (ov_partBegin : Nat → Int32) (ov_partEnd : Nat → Int32) (ov_newSort : Nat → Int32) (ov_newValue : Nat → Int32) (ov_newLeast : Nat → Int32) (ov_newMost : Nat → Int32) (ov_newFirst : Nat → Int32) (ov_newNext : Nat → Int32) (ov_newMany : Nat → Int32) (ov_newPart : Nat → Int32) (ov_newBegin : Nat → Int32) (ov_newEnd : Nat → Int32) (ov_newNames : Nat → Int32) (ov_groupSort : Nat → Int32) (ov_groupValue : Nat → Int32) (ov_rowFirst : Nat → Int32) (ov_rowLast : Nat → Int32) (ov_rowMany : Nat → Int32) (ov_rowsFirst : Nat → Int32) (ov_rowsLast : Nat → Int32) (ov_rowsMany : Nat → Int32) (ov_waiting : Nat → Int32) (ov_waitingHolder : Nat → Int32), ov_thrown.toInt = 0 → ov_taped.toInt ≤ v_taped.toInt → 0 ≤ ov_taped.toInt → qp2 (fun k m l => (m = 0) ∨ (0 ≤ l ∧ l ≤ 259)) ov_rowMany ov_rowFirst 0 12 → qp2 (fun k m l => (m = 0) ∨ (0 ≤ l ∧ l ≤ 259)) ov_rowMany ov_rowFirst 0 (ov_thrown.toInt + 12) → qp2 (fun k m l => (m = 0) ∨ (0 ≤ l ∧ l ≤ 259)) ov_rowMany ov_rowFirst ov_thrown.toInt 12 → qp2 (fun k m l => (m = 0) ∨ (0 ≤ l ∧ l ≤ 259)) ov_rowMany ov_rowFirst ov_thrown.toInt (ov_thrown.toInt + 12) → qp2 (fun k m l => (m = 0) ∨ (0 ≤ l ∧ l ≤ 259)) ov_rowsMany ov_rowsFirst 0 12 → qp2 (fun k m l => (m = 0) ∨ (0 ≤ l ∧ l ≤ 259)) ov_rowsMany ov_rowsFirst 0 (ov_thrown.toInt + 12) → qp2 (fun k m l => (m = 0) ∨ (0 ≤ l ∧ l ≤ 259)) ov_rowsMany ov_rowsFirst ov_thrown.toInt 12 → qp2 (fun k m l => (m = 0) ∨ (0 ≤ l ∧ l ≤ 259)) ov_rowsMany ov_rowsFirst ov_thrown.toInt (ov_thrown.toInt + 12) → qp2 (fun k m l => (m = 0) ∨ (0 ≤ l ∧ l ≤ 259)) ov_rowMany ov_rowLast 0 12 → qp2 (fun k m l => (m = 0) ∨ (0 ≤ l ∧ l ≤ 259)) ov_rowMany ov_rowLast 0 (ov_thrown.toInt + 12) → qp2 (fun k m l => (m = 0) ∨ (0 ≤ l ∧ l ≤ 259)) ov_rowMany ov_rowLast ov_thrown.toInt 12 → qp2 (fun k m l => (m = 0) ∨ (0 ≤ l ∧ l ≤ 259)) ov_rowMany ov_rowLast ov_thrown.toInt (ov_thrown.toInt + 12) → qp2 (fun k m l => (m = 0) ∨ (0 ≤ l ∧ l ≤ 259)) ov_rowsMany ov_rowsLast 0 12 → qp2 (fun k m l => (m = 0) ∨ (0 ≤ l ∧ l ≤ 259)) ov_rowsMany ov_rowsLast 0 (ov_thrown.toInt + 12) → qp2 (fun k m l => (m = 0) ∨ (0 ≤ l ∧ l ≤ 259)) ov_rowsMany ov_rowsLast ov_thrown.toInt 12 → qp2 (fun k m l => (m = 0) ∨ (0 ≤ l ∧ l ≤ 259)) ov_rowsMany ov_rowsLast ov_thrown.toInt (ov_thrown.toInt + 12) → rp (fun k v => -1 ≤ v ∧ v ≤ 259) ov_rowFirst 0 12 → rp (fun k v => -1 ≤ v ∧ v ≤ 259) ov_rowFirst 0 (ov_thrown.toInt + 12) → rp (fun k v => -1 ≤ v ∧ v ≤ 259) ov_rowFirst ov_thrown.toInt 12 → rp (fun k v => -1 ≤ v ∧ v ≤ 259) ov_rowFirst ov_thrown.toInt (ov_thrown.toInt + 12) → rp (fun k v => -1 ≤ v ∧ v ≤ 259) ov_rowLast 0 12 → rp (fun k v => -1 ≤ v ∧ v ≤ 259) ov_rowLast 0 (ov_thrown.toInt + 12) → rp (fun k v => -1 ≤ v ∧ v ≤ 259) ov_rowLast ov_thrown.toInt 12 → rp (fun k v => -1 ≤ v ∧ v ≤ 259) ov_rowLast ov_thrown.toInt (ov_thrown.toInt + 12) → rp (fun k v => -1 ≤ v ∧ v ≤ 259) ov_rowsFirst 0 12 → rp (fun k v => -1 ≤ v ∧ v ≤ 259) ov_rowsFirst 0 (ov_thrown.toInt + 12) → rp (fun k v => -1 ≤ v ∧ v ≤ 259) ov_rowsFirst ov_thrown.toInt 12 → rp (fun k v => -1 ≤ v ∧ v ≤ 259) ov_rowsFirst ov_thrown.toInt (ov_thrown.toInt + 12) → rp (fun k v => -1 ≤ v ∧ v ≤ 259) ov_rowsLast 0 12 → rp (fun k v => -1 ≤ v ∧ v ≤ 259) ov_rowsLast 0 (ov_thrown.toInt + 12) → rp (fun k v => -1 ≤ v ∧ v ≤ 259) ov_rowsLast ov_thrown.toInt 12 → rp (fun k v => -1 ≤ v ∧ v ≤ 259) ov_rowsLast ov_thrown.toInt (ov_thrown.toInt + 12) → rp (fun k v => -1 ≤ v ∧ v ≤ 259) ov_rowsFirst ov_taped.toInt 12 → rp (fun k v => -1 ≤ v ∧ v ≤ 259) ov_rowsFirst ov_taped.toInt (ov_thrown.toInt + 12) → rp (fun k v => -1 ≤ v ∧ v ≤ 259) ov_rowsLast ov_taped.toInt 12 → rp (fun k v => -1 ≤ v ∧ v ≤ 259) ov_rowsLast ov_taped.toInt (ov_thrown.toInt + 12) → qp2 (fun k m l => (m = 0) ∨ (0 ≤ l ∧ l ≤ 259)) ov_rowsMany ov_rowsFirst ov_taped.toInt 12 → qp2 (fun k m l => (m = 0) ∨ (0 ≤ l ∧ l ≤ 259)) ov_rowsMany ov_rowsFirst ov_taped.toInt (ov_thrown.toInt + 12) → qp2 (fun k m l => (m = 0) ∨ (0 ≤ l ∧ l ≤ 259)) ov_rowsMany ov_rowsLast ov_taped.toInt 12 → qp2 (fun k m l => (m = 0) ∨ (0 ≤ l ∧ l ≤ 259)) ov_rowsMany ov_rowsLast ov_taped.toInt (ov_thrown.toInt + 12) → rp (fun k v => -1 ≤ v ∧ v ≤ 259) ov_rowFirst ov_taped.toInt 12 → rp (fun k v => -1 ≤ v ∧ v ≤ 259) ov_rowFirst ov_taped.toInt (ov_thrown.toInt + 12) → rp (fun k v => -1 ≤ v ∧ v ≤ 259) ov_rowLast ov_taped.toInt 12 → rp (fun k v => -1 ≤ v ∧ v ≤ 259) ov_rowLast ov_taped.toInt (ov_thrown.toInt + 12) → qp2 (fun k m l => (m = 0) ∨ (0 ≤ l ∧ l ≤ 259)) ov_rowMany ov_rowFirst ov_taped.toInt 12 → qp2 (fun k m l => (m = 0) ∨ (0 ≤ l ∧ l ≤ 259)) ov_rowMany ov_rowFirst ov_taped.toInt (ov_thrown.toInt + 12) → qp2 (fun k m l => (m = 0) ∨ (0 ≤ l ∧ l ≤ 259)) ov_rowMany ov_rowLast ov_taped.toInt 12 → qp2 (fun k m l => (m = 0) ∨ (0 ≤ l ∧ l ≤ 259)) ov_rowMany ov_rowLast ov_taped.toInt (ov_thrown.toInt + 12) → (zAll ov_isThere ov_many ov_captures ov_sort ov_value ov_least ov_most ov_holder ov_parts ov_end ov_firstPart ov_partBegin ov_partEnd ov_size ov_positions) → (zGo ov_isGoing ov_isThere v_goSlot.toInt) → Q r ov_thrown ov_taped ov_faultPlace ov_newNodes ov_newParts ov_fault ov_faultAt ov_at ov_items ov_newCaptures ov_depth ov_memberValue ov_memberEnd ov_loopLeast ov_loopMost ov_isGoing ov_isThere ov_many ov_captures ov_nameOf ov_sort ov_value ov_least ov_most ov_holder ov_parts ov_end ov_size ov_positions ov_firstPart ov_mayEmpty ov_inCase ov_partBegin ov_partEnd ov_newSort ov_newValue ov_newLeast ov_newMost ov_newFirst ov_newNext ov_newMany ov_newPart ov_newBegin ov_newEnd ov_newNames ov_groupSort ov_groupValue ov_rowFirst ov_rowLast ov_rowMany ov_rowsFirst ov_rowsLast ov_rowsMany ov_waiting ov_waitingHolder) : w_X12_pattern p1 v_taped v_faultPlace v_newNodes v_newParts v_fault v_faultAt v_at v_items v_newCaptures v_depth v_memberValue v_memberEnd v_loopLeast v_loopMost v_isGoing v_goSlot v_tape v_isThere v_many v_captures v_nameOf v_sort v_value v_least v_most v_holder v_parts v_end v_size v_positions v_firstPart v_mayEmpty v_inCase v_partBegin v_partEnd v_newSort v_newValue v_newLeast v_newMost v_newFirst v_newNext v_newMany v_newPart v_newBegin v_newEnd v_newNames v_groupSort v_groupValue v_rowFirst v_rowLast v_rowMany v_rowsFirst v_rowsLast v_rowsMany v_waiting v_waitingHolder Q := by
  have q_t : (bz true).toInt = 1 := rfl
  have q_f : (bz false).toInt = 0 := rfl
  have q_m2 : ((-2) : Int32).toInt = (-2) := rfl
  have q_m1 : ((-1) : Int32).toInt = (-1) := rfl
  have q_0 : (0 : Int32).toInt = 0 := rfl
  have q_1 : (1 : Int32).toInt = 1 := rfl
  have q_5 : (5 : Int32).toInt = 5 := rfl
  unfold w_X12_pattern
  refine ok_X12_in  (fun r8 f1 f2 f3 f4 f5 f6 => ?_)
  refine ⟨fun c11 => ?_, fun c11 => ?_⟩
  · have f7 : r8.toInt ≠ 0 := i_ne (a := r8.toInt) (b := 0) rfl rfl c11
    refine ok_X12_readAll (by omega) (by omega) (rp_mono b0 (by omega) (by omega)) (qp2_mono b1 (by omega) (by omega)) (qp2_mono b2 (by omega) (by omega)) (qp2_mono b3 (by omega) (by omega)) (qp2_mono b4 (by omega) (by omega)) (rp_mono b5 (by omega) (by omega)) (rp_mono b6 (by omega) (by omega)) (rp_mono b7 (by omega) (by omega)) (rp_mono b8 (by omega) (by omega)) (fun r18 r18_0 r18_1 r18_2 r18_3 r18_4 r18_5 r18_6 r18_7 r18_8 r18_9 r18_10 r18_11 r18_12 r18_13 r18_14 r18_15 r18_16 r18_17 r18_18 r18_19 r18_20 r18_21 r18_22 r18_23 r18_24 r18_25 r18_26 r18_27 r18_28 r18_29 r18_30 f8 f9 f10 f11 f12 f13 f14 f15 f16 f17 f18 f19 f20 f21 f22 f23 f24 f25 f26 f27 f28 f29 f30 f31 f32 f33 f34 f35 f36 f37 f38 f39 f40 f41 f42 f43 f44 f45 f46 f47 f48 h49 h50 h51 h52 h53 h54 h55 h56 h57 h58 h59 h60 h61 h62 h63 h64 h65 h66 h67 h68 h69 h70 h71 h72 h73 h74 h75 h76 h77 h78 h79 h80 h81 h82 h83 h84 h85 h86 h87 h88 h89 h90 h91 h92 h93 h94 h95 h96 h97 h98 h99 h100 h101 h102 h103 h104 h105 h106 h107 h108 h109 h110 h111 h112 u18_0 => ?_)
    have j_43 : ∀ (s0_43 : Int32), ((s0_43.toInt + 1 = 0 ∧ r18_2.toInt ≤ 0) ∨ (s0_43.toInt = r18_3.toInt ∧ 1 ≤ r18_2.toInt)) → w_X12_pattern_43 p1 v_goSlot Q s0_43 r18 0 0 v_faultPlace r18_0 r18_1 r18_2 r18_3 r18_4 r18_5 r18_6 r18_7 r18_8 r18_9 r18_10 r18_11 v_isGoing v_isThere v_many v_captures v_nameOf v_sort v_value v_least v_most v_holder v_parts v_end v_size v_positions v_firstPart v_mayEmpty v_inCase v_partBegin v_partEnd r18_12 r18_13 r18_14 r18_15 r18_16 r18_17 r18_18 r18_19 r18_20 r18_21 r18_22 r18_23 r18_24 r18_25 r18_26 r18_27 r18_28 r18_29 r18_30 v_waiting v_waitingHolder := by
      intro s0_43 f113
      unfold w_X12_pattern_43
      refine ⟨fun c50 => ?_, fun c50 => ?_⟩
      · have f114 : r18_2.toInt ≤ 0 := i_le (a := r18_2.toInt) (b := 0) rfl rfl c50
        have hRd := zRd_ok u18_0 (by omega)
        have hn1 : 1 ≤ r18_0.toInt := by
          have h1 := hRd.1.1; have h2 := hRd.1.2.2.1; omega
        have f115 : 1 ≤ r18_0.toInt := hn1
        refine ok_X12_keepPattern (v_newNodes := r18_0) (by omega) (by omega) (by omega) (by omega) (by omega) (by omega) (by omega) (by omega) (by exact hRd) (by exact u0) (fun r64_0 r64_1 r64_2 r64_3 r64_4 r64_5 r64_6 r64_7 r64_8 r64_9 r64_10 r64_11 r64_12 r64_13 r64_14 r64_15 r64_16 r64_17 r64_18 r64_19 u64_0 u64_1 => ?_)
        have f116 : (0 ≤ (bz v_isGoing).toInt ∧ (bz v_isGoing).toInt ≤ 1) := i_bzr v_isGoing
        have j_88 : ∀ (s0_88 : Int32), ((s0_88.toInt = 1) ∨ (s0_88.toInt = 0)) → (s0_88.toInt = 1 → (v_isGoing = true ∧ v_goSlot.toInt ≠ p1.toInt)) → w_X12_pattern_88 p1 Q s0_88 0 0 s0_43 r18_0 r18_1 r18_2 r18_3 r18_4 r18_5 r18_6 r18_7 r18_8 r18_9 r18_10 r18_11 v_isGoing r64_0 r64_1 r64_2 r64_3 r64_4 r64_5 r64_6 r64_7 r64_8 r64_9 r64_10 r64_11 r64_12 r64_13 r64_14 r64_15 r64_16 r64_17 r18_12 r18_13 r18_14 r18_15 r18_16 r18_17 r18_18 r18_19 r18_20 r18_21 r18_22 r18_23 r18_24 r18_25 r18_26 r18_27 r18_28 r18_29 r18_30 r64_18 r64_19 := by
          intro s0_88 f117 u88_0
          unfold w_X12_pattern_88
          refine ⟨i_01 (by omega) (by omega), ?_⟩
          intro b88 eb88
          have f118 : (bz b88).toInt = s0_88.toInt := by rw [← eb88]
          refine ⟨i_in (by omega) (by omega), ?_⟩
          intro x96 ex96
          exact hq x96 0 0 s0_43 r18_0 r18_1 r18_2 r18_3 r18_4 r18_5 r18_6 r18_7 r18_8 r18_9 r18_10 r18_11 b88 r64_0 r64_1 r64_2 r64_3 r64_4 r64_5 r64_6 r64_7 r64_8 r64_9 r64_10 r64_11 r64_12 r64_13 r64_14 r64_15 r64_16 r64_17 r18_12 r18_13 r18_14 r18_15 r18_16 r18_17 r18_18 r18_19 r18_20 r18_21 r18_22 r18_23 r18_24 r18_25 r18_26 r18_27 r18_28 r18_29 r18_30 r64_18 r64_19 (by omega) (by omega) (by omega) (qp2_mono h97 (by omega) (by omega)) (qp2_mono h97 (by omega) (by omega)) (qp2_mono h97 (by omega) (by omega)) (qp2_mono h97 (by omega) (by omega)) (qp2_mono h65 (by omega) (by omega)) (qp2_mono h65 (by omega) (by omega)) (qp2_mono h65 (by omega) (by omega)) (qp2_mono h65 (by omega) (by omega)) (qp2_mono h105 (by omega) (by omega)) (qp2_mono h105 (by omega) (by omega)) (qp2_mono h105 (by omega) (by omega)) (qp2_mono h105 (by omega) (by omega)) (qp2_mono h73 (by omega) (by omega)) (qp2_mono h73 (by omega) (by omega)) (qp2_mono h73 (by omega) (by omega)) (qp2_mono h73 (by omega) (by omega)) (rp_mono h81 (by omega) (by omega)) (rp_mono h81 (by omega) (by omega)) (rp_mono h81 (by omega) (by omega)) (rp_mono h81 (by omega) (by omega)) (rp_mono h89 (by omega) (by omega)) (rp_mono h89 (by omega) (by omega)) (rp_mono h89 (by omega) (by omega)) (rp_mono h89 (by omega) (by omega)) (rp_mono h49 (by omega) (by omega)) (rp_mono h49 (by omega) (by omega)) (rp_mono h49 (by omega) (by omega)) (rp_mono h49 (by omega) (by omega)) (rp_mono h57 (by omega) (by omega)) (rp_mono h57 (by omega) (by omega)) (rp_mono h57 (by omega) (by omega)) (rp_mono h57 (by omega) (by omega)) (rp_mono h49 (by omega) (by omega)) (rp_mono h49 (by omega) (by omega)) (rp_mono h57 (by omega) (by omega)) (rp_mono h57 (by omega) (by omega)) (qp2_mono h65 (by omega) (by omega)) (qp2_mono h65 (by omega) (by omega)) (qp2_mono h73 (by omega) (by omega)) (qp2_mono h73 (by omega) (by omega)) (rp_mono h81 (by omega) (by omega)) (rp_mono h81 (by omega) (by omega)) (rp_mono h89 (by omega) (by omega)) (rp_mono h89 (by omega) (by omega)) (qp2_mono h97 (by omega) (by omega)) (qp2_mono h97 (by omega) (by omega)) (qp2_mono h105 (by omega) (by omega)) (qp2_mono h105 (by omega) (by omega)) (by assumption) (by exact zGo_put u1 u64_1 (by omega) (fun z => u88_0 (zbz2 z (by assumption))))
        have j_87 : (((bz v_isGoing).toInt = 0) ∨ (v_goSlot.toInt = p1.toInt)) → (True) → w_X12_pattern_87 p1 Q 0 0 s0_43 r18_0 r18_1 r18_2 r18_3 r18_4 r18_5 r18_6 r18_7 r18_8 r18_9 r18_10 r18_11 v_isGoing r64_0 r64_1 r64_2 r64_3 r64_4 r64_5 r64_6 r64_7 r64_8 r64_9 r64_10 r64_11 r64_12 r64_13 r64_14 r64_15 r64_16 r64_17 r18_12 r18_13 r18_14 r18_15 r18_16 r18_17 r18_18 r18_19 r18_20 r18_21 r18_22 r18_23 r18_24 r18_25 r18_26 r18_27 r18_28 r18_29 r18_30 r64_18 r64_19 := by
          intro f119 u87_0
          unfold w_X12_pattern_87
          exact j_88 0 (by omega) (by first | exact fun _ => ⟨zbz1 (by omega), by omega⟩ | exact fun z => absurd z (by decide))
        refine ⟨fun c72 => ?_, fun c72 => ?_⟩
        · have f120 : (bz v_isGoing).toInt = 0 := i_eq (a := (bz v_isGoing).toInt) (b := 0) rfl rfl c72
          exact j_87  (by omega) (by trivial)
        · have f121 : (bz v_isGoing).toInt ≠ 0 := i_ne (a := (bz v_isGoing).toInt) (b := 0) rfl rfl c72
          refine ⟨fun c80 => ?_, fun c80 => ?_⟩
          · have f122 : v_goSlot.toInt = p1.toInt := i_eq (a := v_goSlot.toInt) (b := p1.toInt) rfl rfl c80
            exact j_87  (by omega) (by trivial)
          · have f123 : v_goSlot.toInt ≠ p1.toInt := i_ne (a := v_goSlot.toInt) (b := p1.toInt) rfl rfl c80
            exact j_88 1 (by omega) (by first | exact fun _ => ⟨zbz1 (by omega), by omega⟩ | exact fun z => absurd z (by decide))
      · have f124 : 0 < r18_2.toInt := i_nle (a := r18_2.toInt) (b := 0) rfl rfl c50
        intro x59 ex59
        exact hq x59 0 0 s0_43 r18_0 r18_1 r18_2 r18_3 r18_4 r18_5 r18_6 r18_7 r18_8 r18_9 r18_10 r18_11 v_isGoing v_isThere v_many v_captures v_nameOf v_sort v_value v_least v_most v_holder v_parts v_end v_size v_positions v_firstPart v_mayEmpty v_inCase v_partBegin v_partEnd r18_12 r18_13 r18_14 r18_15 r18_16 r18_17 r18_18 r18_19 r18_20 r18_21 r18_22 r18_23 r18_24 r18_25 r18_26 r18_27 r18_28 r18_29 r18_30 v_waiting v_waitingHolder (by omega) (by omega) (by omega) (qp2_mono h97 (by omega) (by omega)) (qp2_mono h97 (by omega) (by omega)) (qp2_mono h97 (by omega) (by omega)) (qp2_mono h97 (by omega) (by omega)) (qp2_mono h65 (by omega) (by omega)) (qp2_mono h65 (by omega) (by omega)) (qp2_mono h65 (by omega) (by omega)) (qp2_mono h65 (by omega) (by omega)) (qp2_mono h105 (by omega) (by omega)) (qp2_mono h105 (by omega) (by omega)) (qp2_mono h105 (by omega) (by omega)) (qp2_mono h105 (by omega) (by omega)) (qp2_mono h73 (by omega) (by omega)) (qp2_mono h73 (by omega) (by omega)) (qp2_mono h73 (by omega) (by omega)) (qp2_mono h73 (by omega) (by omega)) (rp_mono h81 (by omega) (by omega)) (rp_mono h81 (by omega) (by omega)) (rp_mono h81 (by omega) (by omega)) (rp_mono h81 (by omega) (by omega)) (rp_mono h89 (by omega) (by omega)) (rp_mono h89 (by omega) (by omega)) (rp_mono h89 (by omega) (by omega)) (rp_mono h89 (by omega) (by omega)) (rp_mono h49 (by omega) (by omega)) (rp_mono h49 (by omega) (by omega)) (rp_mono h49 (by omega) (by omega)) (rp_mono h49 (by omega) (by omega)) (rp_mono h57 (by omega) (by omega)) (rp_mono h57 (by omega) (by omega)) (rp_mono h57 (by omega) (by omega)) (rp_mono h57 (by omega) (by omega)) (rp_mono h49 (by omega) (by omega)) (rp_mono h49 (by omega) (by omega)) (rp_mono h57 (by omega) (by omega)) (rp_mono h57 (by omega) (by omega)) (qp2_mono h65 (by omega) (by omega)) (qp2_mono h65 (by omega) (by omega)) (qp2_mono h73 (by omega) (by omega)) (qp2_mono h73 (by omega) (by omega)) (rp_mono h81 (by omega) (by omega)) (rp_mono h81 (by omega) (by omega)) (rp_mono h89 (by omega) (by omega)) (rp_mono h89 (by omega) (by omega)) (qp2_mono h97 (by omega) (by omega)) (qp2_mono h97 (by omega) (by omega)) (qp2_mono h105 (by omega) (by omega)) (qp2_mono h105 (by omega) (by omega)) (by assumption) (by assumption)
    refine ⟨fun c32 => ?_, fun c32 => ?_⟩
    · have f125 : r18_2.toInt ≤ 0 := i_le (a := r18_2.toInt) (b := 0) rfl rfl c32
      exact j_43 (-1) (by omega)
    · have f126 : 0 < r18_2.toInt := i_nle (a := r18_2.toInt) (b := 0) rfl rfl c32
      exact j_43 r18_3 (by omega)
  · have f127 : r8.toInt = 0 := i_eq (a := r8.toInt) (b := 0) rfl rfl c11
    exact hq (-2) 0 v_taped v_faultPlace v_newNodes v_newParts v_fault v_faultAt v_at v_items v_newCaptures v_depth v_memberValue v_memberEnd v_loopLeast v_loopMost v_isGoing v_isThere v_many v_captures v_nameOf v_sort v_value v_least v_most v_holder v_parts v_end v_size v_positions v_firstPart v_mayEmpty v_inCase v_partBegin v_partEnd v_newSort v_newValue v_newLeast v_newMost v_newFirst v_newNext v_newMany v_newPart v_newBegin v_newEnd v_newNames v_groupSort v_groupValue v_rowFirst v_rowLast v_rowMany v_rowsFirst v_rowsLast v_rowsMany v_waiting v_waitingHolder (by omega) (by omega) (by omega) (qp2_mono b1 (by omega) (by omega)) (qp2_mono b1 (by omega) (by omega)) (qp2_mono b1 (by omega) (by omega)) (qp2_mono b1 (by omega) (by omega)) (qp2_mono b2 (by omega) (by omega)) (qp2_mono b2 (by omega) (by omega)) (qp2_mono b2 (by omega) (by omega)) (qp2_mono b2 (by omega) (by omega)) (qp2_mono b3 (by omega) (by omega)) (qp2_mono b3 (by omega) (by omega)) (qp2_mono b3 (by omega) (by omega)) (qp2_mono b3 (by omega) (by omega)) (qp2_mono b4 (by omega) (by omega)) (qp2_mono b4 (by omega) (by omega)) (qp2_mono b4 (by omega) (by omega)) (qp2_mono b4 (by omega) (by omega)) (rp_mono b5 (by omega) (by omega)) (rp_mono b5 (by omega) (by omega)) (rp_mono b5 (by omega) (by omega)) (rp_mono b5 (by omega) (by omega)) (rp_mono b6 (by omega) (by omega)) (rp_mono b6 (by omega) (by omega)) (rp_mono b6 (by omega) (by omega)) (rp_mono b6 (by omega) (by omega)) (rp_mono b7 (by omega) (by omega)) (rp_mono b7 (by omega) (by omega)) (rp_mono b7 (by omega) (by omega)) (rp_mono b7 (by omega) (by omega)) (rp_mono b8 (by omega) (by omega)) (rp_mono b8 (by omega) (by omega)) (rp_mono b8 (by omega) (by omega)) (rp_mono b8 (by omega) (by omega)) (rp_mono b7 (by omega) (by omega)) (rp_mono b7 (by omega) (by omega)) (rp_mono b8 (by omega) (by omega)) (rp_mono b8 (by omega) (by omega)) (qp2_mono b2 (by omega) (by omega)) (qp2_mono b2 (by omega) (by omega)) (qp2_mono b4 (by omega) (by omega)) (qp2_mono b4 (by omega) (by omega)) (rp_mono b5 (by omega) (by omega)) (rp_mono b5 (by omega) (by omega)) (rp_mono b6 (by omega) (by omega)) (rp_mono b6 (by omega) (by omega)) (qp2_mono b1 (by omega) (by omega)) (qp2_mono b1 (by omega) (by omega)) (qp2_mono b3 (by omega) (by omega)) (qp2_mono b3 (by omega) (by omega)) (by assumption) (by assumption)
