set_option maxHeartbeats 4000000 in
theorem ok_X12_wrongSubject {p1 : Int32} {v_finding : Int32} {v_isSubject : Nat → Bool} {Q : Int32 → Int32 → Prop} (hq : ∀ (r : Int32) (ov_finding : Int32), ((r.toInt = 0 ∧ ov_finding.toInt = v_finding.toInt) ∨ (r.toInt + 3 = 0 ∧ ov_finding.toInt = 2) ∨ (r.toInt + 2 = 0 ∧ ov_finding.toInt = v_finding.toInt)) → ((r.toInt ≠ 0) ∨ (0 ≤ p1.toInt)) → ((r.toInt ≠ 0) ∨ (p1.toInt ≤ 3)) → (r.toInt = 0 → v_isSubject p1.toNatClampNeg = true) → (r.toInt = -3 → (0 ≤ p1.toInt ∧ p1.toInt ≤ 3 ∧ v_isSubject p1.toNatClampNeg = false)) → (r.toInt = -2 → (p1.toInt < 0 ∨ 3 < p1.toInt)) → Q r ov_finding) : w_X12_wrongSubject p1 v_finding v_isSubject Q := by
  have q_t : (bz true).toInt = 1 := rfl
  have q_f : (bz false).toInt = 0 := rfl
  have q_m3 : ((-3) : Int32).toInt = (-3) := rfl
  have q_m2 : ((-2) : Int32).toInt = (-2) := rfl
  have q_0 : (0 : Int32).toInt = 0 := rfl
  have q_2 : (2 : Int32).toInt = 2 := rfl
  have q_3 : (3 : Int32).toInt = 3 := rfl
  unfold w_X12_wrongSubject
  refine ok_X12_in  (fun r3 f1 f2 f3 f4 f5 f6 => ?_)
  refine ⟨fun c6 => ?_, fun c6 => ?_⟩
  · have f7 : r3.toInt ≠ 0 := i_ne (a := r3.toInt) (b := 0) rfl rfl c6
    refine ⟨i_in (by omega) (by omega), ?_⟩
    intro x17 ex17
    have f8 : (0 ≤ x17.toInt ∧ x17.toInt ≤ 1) := i_bz ex17
    refine ⟨fun c18 => ?_, fun c18 => ?_⟩
    · have f9 : x17.toInt ≠ 0 := i_ne (a := x17.toInt) (b := 0) rfl rfl c18
      exact hq 0 v_finding (by omega) (by omega) (by omega) (by exact fun _ => zbz_t ex17 (by omega)) (by exact fun z => absurd z (by decide)) (by exact fun z => absurd z (by decide))
    · have f10 : x17.toInt = 0 := i_eq (a := x17.toInt) (b := 0) rfl rfl c18
      exact hq (-3) 2 (by omega) (by omega) (by omega) (by exact fun z => absurd z (by decide)) (by exact fun _ => ⟨by omega, by omega, zbz_f ex17 (by omega)⟩) (by exact fun z => absurd z (by decide))
  · have f11 : r3.toInt = 0 := i_eq (a := r3.toInt) (b := 0) rfl rfl c6
    exact hq (-2) v_finding (by omega) (by omega) (by omega) (by exact fun z => absurd z (by decide)) (by exact fun z => absurd z (by decide)) (by exact fun _ => by omega)
set_option maxHeartbeats 4000000 in
theorem ok_X12_feed {p1 : Int32} {p2 : Int64} {v_taped : Int32} {v_tape : Nat → Int32} {Q : Int32 → Int32 → Int32 → (Nat → Int32) → Prop} (a0 : 0 ≤ v_taped.toInt) (a1 : v_taped.toInt ≤ 200) (b0 : rp (fun k v => 32 ≤ v ∧ v ≤ 126) v_tape 0 v_taped.toInt) (hq : ∀ (r : Int32) (ov_thrown : Int32) (ov_taped : Int32) (ov_tape : Nat → Int32), ov_thrown.toInt = 0 → v_taped.toInt ≤ ov_taped.toInt → 0 ≤ r.toInt + 9 → r.toInt ≤ 200 → ov_taped.toInt ≤ 200 → rp (fun k v => 32 ≤ v ∧ v ≤ 126) ov_tape 0 v_taped.toInt → rp (fun k v => 32 ≤ v ∧ v ≤ 126) ov_tape 0 ov_taped.toInt → rp (fun k v => 32 ≤ v ∧ v ≤ 126) ov_tape (r.toInt + 9) v_taped.toInt → rp (fun k v => 32 ≤ v ∧ v ≤ 126) ov_tape (r.toInt + 9) ov_taped.toInt → rp (fun k v => 32 ≤ v ∧ v ≤ 126) ov_tape ov_thrown.toInt v_taped.toInt → rp (fun k v => 32 ≤ v ∧ v ≤ 126) ov_tape ov_thrown.toInt ov_taped.toInt → rp (fun k v => 32 ≤ v ∧ v ≤ 126) ov_tape 0 r.toInt → rp (fun k v => 32 ≤ v ∧ v ≤ 126) ov_tape ov_thrown.toInt r.toInt → Q r ov_thrown ov_taped ov_tape) : w_X12_feed p1 p2 v_taped v_tape Q := by
  have q_t : (bz true).toInt = 1 := rfl
  have q_f : (bz false).toInt = 0 := rfl
  have q_m9 : ((-9) : Int32).toInt = (-9) := rfl
  have q_m4 : ((-4) : Int32).toInt = (-4) := rfl
  have q_0 : (0 : Int32).toInt = 0 := rfl
  have q_1 : (1 : Int32).toInt = 1 := rfl
  have q_8 : (8 : Int32).toInt = 8 := rfl
  have q_32 : (32 : Int32).toInt = 32 := rfl
  have q_126 : (126 : Int32).toInt = 126 := rfl
  unfold w_X12_feed
  refine ok_X12_in  (fun r9 f1 f2 f3 f4 f5 f6 => ?_)
  have j_17 : ∀ n_17 : Nat, ∀ (l4_17 : Int32) (l5_17 : Int32), 0 ≤ l4_17.toInt → l4_17.toInt ≤ r9.toInt → 0 ≤ l5_17.toInt → l5_17.toInt ≤ 8 → (zFg l4_17.toInt p2 l5_17.toInt) → ((-1) * l5_17.toInt + 8).toNat < n_17 → w_X12_feed_17 p1 p2 Q 0 v_taped v_tape n_17 l4_17 l5_17 := by
    intro n_17
    induction n_17 with
    | zero =>
      intro l4_17 l5_17 f7 f8 f9 f10 u17_0 hm_17
      exfalso; omega
    | succ n_17 ih_17 =>
      intro l4_17 l5_17 f7 f8 f9 f10 u17_0 hm_17
      unfold w_X12_feed_17
      unfold w_X12_feed_17B
      have j_55 : ((p1.toInt ≤ l5_17.toInt) ∨ (l5_17.toInt + 1 ≤ p1.toInt ∧ l4_17.toInt = 0)) → (zFg l4_17.toInt p2 p1.toInt) → w_X12_feed_55 p1 p2 Q l4_17 0 v_taped v_tape := by
        intro f11 u55_0
        unfold w_X12_feed_55
        refine ⟨fun c57 => ?_, fun c57 => ?_⟩
        · have f12 : l4_17.toInt ≠ 0 := i_ne (a := l4_17.toInt) (b := 0) rfl rfl c57
          have hF := u55_0.resolve_left (by omega)
          intro x68 ex68
          have f13 : x68.toInt = v_taped.toInt + p1.toInt := i_add (a := v_taped.toInt) (b := p1.toInt) ex68 rfl rfl (by omega) (by omega)
          refine ⟨fun c72 => ?_, fun c72 => ?_⟩
          · have f14 : x68.toInt ≤ 200 := i_le (a := x68.toInt) (b := 200) rfl rfl c72
            intro x80 ex80
            have f15 : x80.toInt = p1.toInt - 1 := i_sub (a := p1.toInt) (b := 1) ex80 rfl rfl (by omega) (by omega)
            have j_83 : ∀ n_83 : Nat, ∀ (l5_83 : Int32) (v_taped_83 : Int32) (v_tape_83 : Nat → Int32), 0 ≤ l5_83.toInt + 1 → l5_83.toInt + v_taped_83.toInt + 1 = p1.toInt + v_taped.toInt → l5_83.toInt + 1 ≤ p1.toInt → rp (fun k v => 32 ≤ v ∧ v ≤ 126) v_tape_83 0 v_taped.toInt → rp (fun k v => 32 ≤ v ∧ v ≤ 126) v_tape_83 0 v_taped_83.toInt → (l5_83.toInt + 2147483649).toNat < n_83 → w_X12_feed_83 p2 Q 0 n_83 l5_83 v_taped_83 v_tape_83 := by
              intro n_83
              induction n_83 with
              | zero =>
                intro l5_83 v_taped_83 v_tape_83 f16 f17 f18 h19 h20 hm_83
                exfalso; omega
              | succ n_83 ih_83 =>
                intro l5_83 v_taped_83 v_tape_83 f16 f17 f18 h19 h20 hm_83
                unfold w_X12_feed_83
                unfold w_X12_feed_83B
                refine ⟨fun c85 => ?_, fun c85 => ?_⟩
                · have f21 : l5_83.toInt < 0 := i_lt (a := l5_83.toInt) (b := 0) rfl rfl c85
                  exact hq v_taped_83 0 v_taped_83 v_tape_83 (by omega) (by omega) (by omega) (by omega) (by omega) (rp_mono h20 (by omega) (by omega)) (rp_mono h20 (by omega) (by omega)) (rp_mono h20 (by omega) (by omega)) (rp_mono h20 (by omega) (by omega)) (rp_mono h20 (by omega) (by omega)) (rp_mono h20 (by omega) (by omega)) (rp_mono h20 (by omega) (by omega)) (rp_mono h20 (by omega) (by omega))
                · have f22 : 0 ≤ l5_83.toInt := i_nlt (a := l5_83.toInt) (b := 0) rfl rfl c85
                  intro x101 ex101
                  have f23 : x101.toInt = 8 * l5_83.toInt := i_mul (a := 8) (b := l5_83.toInt) ex101 rfl rfl (by omega) (by omega)
                  intro y102 ey102
                  intro y106 ey106
                  intro x107 ex107
                  have f24 : 32 ≤ x107.toInt := by have h9 := hF l5_83 (by omega) (by omega); rw [← zb8_e ex101 ey102 ey106 ex107] at h9; omega
                  have f25 : x107.toInt ≤ 126 := by have h9 := hF l5_83 (by omega) (by omega); rw [← zb8_e ex101 ey102 ey106 ex107] at h9; omega
                  refine ⟨i_in (by omega) (by omega), ?_⟩
                  intro g108 eg108
                  have h26 : rp (fun k v => 32 ≤ v ∧ v ≤ 126) g108 0 v_taped.toInt := rp_upd (P := (fun k v => 32 ≤ v ∧ v ≤ 126)) (a := v_taped_83.toInt) (b := x107.toInt) h19 eg108 rfl rfl (by omega) ⟨(by omega), (by omega)⟩
                  have h27 : rp (fun k v => 32 ≤ v ∧ v ≤ 126) g108 0 (v_taped_83.toInt + 1) := rp_ext (P := (fun k v => 32 ≤ v ∧ v ≤ 126)) (a := v_taped_83.toInt) (b := x107.toInt) h20 eg108 rfl rfl (by omega) (by omega) ⟨(by omega), (by omega)⟩
                  intro x115 ex115
                  have f28 : x115.toInt = v_taped_83.toInt + 1 := i_add (a := v_taped_83.toInt) (b := 1) ex115 rfl rfl (by omega) (by omega)
                  intro x119 ex119
                  have f29 : x119.toInt = l5_83.toInt + (-1) := i_add (a := l5_83.toInt) (b := (-1)) ex119 rfl rfl (by omega) (by omega)
                  exact ih_83 x119 x115 g108 (by omega) (by omega) (by omega) (rp_mono h27 (by omega) (by omega)) (rp_mono h27 (by omega) (by omega)) (by have h8_0 := i_rng l5_83; have h8_1 := i_rng x119; omega)
            exact ⟨(x80.toInt + 2147483649).toNat + 1, j_83   ((x80.toInt + 2147483649).toNat + 1) x80 v_taped v_tape (by omega) (by omega) (by omega) (rp_mono b0 (by omega) (by omega)) (rp_mono b0 (by omega) (by omega)) (by omega)⟩
          · have f30 : 200 < x68.toInt := i_nle (a := x68.toInt) (b := 200) rfl rfl c72
            exact hq (-9) 0 v_taped v_tape (by omega) (by omega) (by omega) (by omega) (by omega) (rp_mono b0 (by omega) (by omega)) (rp_mono b0 (by omega) (by omega)) (rp_mono b0 (by omega) (by omega)) (rp_mono b0 (by omega) (by omega)) (rp_mono b0 (by omega) (by omega)) (rp_mono b0 (by omega) (by omega)) (rp_mono b0 (by omega) (by omega)) (rp_mono b0 (by omega) (by omega))
        · have f31 : l4_17.toInt = 0 := i_eq (a := l4_17.toInt) (b := 0) rfl rfl c57
          exact hq (-4) 0 v_taped v_tape (by omega) (by omega) (by omega) (by omega) (by omega) (rp_mono b0 (by omega) (by omega)) (rp_mono b0 (by omega) (by omega)) (rp_mono b0 (by omega) (by omega)) (rp_mono b0 (by omega) (by omega)) (rp_mono b0 (by omega) (by omega)) (rp_mono b0 (by omega) (by omega)) (rp_mono b0 (by omega) (by omega)) (rp_mono b0 (by omega) (by omega))
      refine ⟨fun c20 => ?_, fun c20 => ?_⟩
      · have f32 : p1.toInt ≤ l5_17.toInt := i_le (a := p1.toInt) (b := l5_17.toInt) rfl rfl c20
        exact j_55  (by omega) (by first | exact Or.inl (by omega) | exact zFg_m u17_0 (by omega))
      · have f33 : l5_17.toInt < p1.toInt := i_nle (a := p1.toInt) (b := l5_17.toInt) rfl rfl c20
        refine ⟨fun c25 => ?_, fun c25 => ?_⟩
        · have f34 : l4_17.toInt = 0 := i_eq (a := l4_17.toInt) (b := 0) rfl rfl c25
          exact j_55  (by omega) (by first | exact Or.inl (by omega) | exact zFg_m u17_0 (by omega))
        · have f35 : l4_17.toInt ≠ 0 := i_ne (a := l4_17.toInt) (b := 0) rfl rfl c25
          intro x33 ex33
          have f36 : x33.toInt = 8 * l5_17.toInt := i_mul (a := 8) (b := l5_17.toInt) ex33 rfl rfl (by omega) (by omega)
          intro y34 ey34
          intro y38 ey38
          intro x39 ex39
          refine ok_X12_in  (fun r44 f37 f38 f39 f40 f41 f42 => ?_)
          intro x49 ex49
          have f43 : x49.toInt = l5_17.toInt + 1 := i_add (a := l5_17.toInt) (b := 1) ex49 rfl rfl (by omega) (by omega)
          exact ih_17 r44 x49 (by omega) (by omega) (by omega) (by omega) (by first | exact zFg_0 | exact zFg_s u17_0 (by omega) (zb8_e ex33 ey34 ey38 ex39) (by omega) (by omega) (by omega)) (by have h8_0 := i_rng l5_17; have h8_1 := i_rng x49; omega)
  exact ⟨(8 : Int).toNat + 1, j_17   ((8 : Int).toNat + 1) r9 0 (by omega) (by omega) (by omega) (by omega) (by first | exact zFg_0 | exact zFg_s u17_0 (by omega) (zb8_e ex33 ey34 ey38 ex39) (by omega) (by omega) (by omega)) (by omega)⟩
set_option maxHeartbeats 4000000 in
theorem ok_X12_out {p1 : Int32} {v_thrown : Int32} {v_outMany : Int32} {v_out : Nat → Int32} {Q : Int32 → Int32 → Prop} (a0 : 0 ≤ v_outMany.toInt) (a1 : v_outMany.toInt ≤ 400) (hq : ∀ (r : Int32) (ov_thrown : Int32), ((1 ≤ ov_thrown.toInt) ∨ (0 ≤ p1.toInt)) → ((1 ≤ ov_thrown.toInt) ∨ (p1.toInt + 1 ≤ v_outMany.toInt)) → ((r.toInt = 0) ∨ (ov_thrown.toInt = 0)) → 0 ≤ ov_thrown.toInt → ov_thrown.toInt ≤ 1 → Q r ov_thrown) : w_X12_out p1 v_thrown v_outMany v_out Q := by
  have q_t : (bz true).toInt = 1 := rfl
  have q_f : (bz false).toInt = 0 := rfl
  have q_0 : (0 : Int32).toInt = 0 := rfl
  have q_1 : (1 : Int32).toInt = 1 := rfl
  unfold w_X12_out
  intro x8 ex8
  have f1 : x8.toInt = v_outMany.toInt - 1 := i_sub (a := v_outMany.toInt) (b := 1) ex8 rfl rfl (by omega) (by omega)
  refine ok_X12_in  (fun r9 f2 f3 f4 f5 f6 f7 => ?_)
  have j_20 : ∀ (s0_20 : Int32), ((1 ≤ s0_20.toInt) ∨ (0 ≤ p1.toInt)) → ((1 ≤ s0_20.toInt) ∨ (p1.toInt + 1 ≤ v_outMany.toInt)) → ((s0_20.toInt = 1 ∧ r9.toInt = 0) ∨ (s0_20.toInt = 0)) → w_X12_out_20 p1 v_out Q s0_20 v_thrown := by
    intro s0_20 f8 f9 f10
    unfold w_X12_out_20
    have j_40 : ∀ (s0_40 : Int32), ((s0_40.toInt = 0) ∨ (s0_20.toInt = 0)) → w_X12_out_40 Q s0_40 s0_20 := by
      intro s0_40 f11
      unfold w_X12_out_40
      exact hq s0_40 s0_20 (by omega) (by omega) (by omega) (by omega) (by omega)
    refine ⟨fun c27 => ?_, fun c27 => ?_⟩
    · have f12 : s0_20.toInt ≠ 0 := i_ne (a := s0_20.toInt) (b := 0) rfl rfl c27
      exact j_40 0 (by omega)
    · have f13 : s0_20.toInt = 0 := i_eq (a := s0_20.toInt) (b := 0) rfl rfl c27
      refine ⟨i_in (by omega) (by omega), ?_⟩
      intro x35 ex35
      exact j_40 x35 (by omega)
  refine ⟨fun c12 => ?_, fun c12 => ?_⟩
  · have f14 : r9.toInt = 0 := i_eq (a := r9.toInt) (b := 0) rfl rfl c12
    exact j_20 1 (by omega) (by omega) (by omega)
  · have f15 : r9.toInt ≠ 0 := i_ne (a := r9.toInt) (b := 0) rfl rfl c12
    exact j_20 0 (by omega) (by omega) (by omega)
set_option maxHeartbeats 4000000 in
theorem ok_X12_span {p1 : Int32} {p2 : Int32} {v_finding : Int32} {v_hasSpan : Bool} {v_spanCaptures : Int32} {v_span : Nat → Int32} {Q : Int32 → Int32 → Int32 → Prop} (a0 : 0 ≤ p2.toInt) (a1 : p2.toInt ≤ 1) (a2 : 0 ≤ v_spanCaptures.toInt) (a3 : v_spanCaptures.toInt ≤ 9) (hq : ∀ (r : Int32) (ov_thrown : Int32) (ov_finding : Int32), ov_thrown.toInt = 0 → ((r.toInt + 4 = 0 ∧ ov_finding.toInt = 1) ∨ (r.toInt + 2 = 0 ∧ ov_finding.toInt = v_finding.toInt ∧ (bz v_hasSpan).toInt = 0) ∨ (ov_finding.toInt = v_finding.toInt)) → Q r ov_thrown ov_finding) : w_X12_span p1 p2 v_finding v_hasSpan v_spanCaptures v_span Q := by
  have q_t : (bz true).toInt = 1 := rfl
  have q_f : (bz false).toInt = 0 := rfl
  have q_m4 : ((-4) : Int32).toInt = (-4) := rfl
  have q_m2 : ((-2) : Int32).toInt = (-2) := rfl
  have q_0 : (0 : Int32).toInt = 0 := rfl
  have q_1 : (1 : Int32).toInt = 1 := rfl
  unfold w_X12_span
  have f1 : (0 ≤ (bz v_hasSpan).toInt ∧ (bz v_hasSpan).toInt ≤ 1) := i_bzr v_hasSpan
  refine ⟨fun c9 => ?_, fun c9 => ?_⟩
  · have f2 : (bz v_hasSpan).toInt ≠ 0 := i_ne (a := (bz v_hasSpan).toInt) (b := 0) rfl rfl c9
    refine ok_X12_in  (fun r21 f3 f4 f5 f6 f7 f8 => ?_)
    refine ⟨fun c24 => ?_, fun c24 => ?_⟩
    · have f9 : r21.toInt ≠ 0 := i_ne (a := r21.toInt) (b := 0) rfl rfl c24
      intro x41 ex41
      have f10 : x41.toInt = 2 * p1.toInt := i_mul (a := 2) (b := p1.toInt) ex41 rfl rfl (by omega) (by omega)
      have j_51 : ∀ (s0_51 : Int32), ((s0_51.toInt = 0 ∧ p2.toInt = 0) ∨ (s0_51.toInt = 1)) → w_X12_span_51 v_span Q s0_51 x41 0 v_finding := by
        intro s0_51 f11
        unfold w_X12_span_51
        intro x51 ex51
        have f12 : x51.toInt = x41.toInt + s0_51.toInt := i_add (a := x41.toInt) (b := s0_51.toInt) ex51 rfl rfl (by omega) (by omega)
        refine ⟨i_in (by omega) (by omega), ?_⟩
        intro x52 ex52
        exact hq x52 0 v_finding (by omega) (by omega)
      refine ⟨fun c43 => ?_, fun c43 => ?_⟩
      · have f13 : p2.toInt = 0 := i_eq (a := p2.toInt) (b := 0) rfl rfl c43
        exact j_51 0 (by omega)
      · have f14 : p2.toInt ≠ 0 := i_ne (a := p2.toInt) (b := 0) rfl rfl c43
        exact j_51 1 (by omega)
    · have f15 : r21.toInt = 0 := i_eq (a := r21.toInt) (b := 0) rfl rfl c24
      exact hq (-4) 0 1 (by omega) (by omega)
  · have f16 : (bz v_hasSpan).toInt = 0 := i_eq (a := (bz v_hasSpan).toInt) (b := 0) rfl rfl c9
    exact hq (-2) 0 v_finding (by omega) (by omega)
set_option maxHeartbeats 4000000 in
theorem ok_X12_told {p1 : Int32} {v_taped : Int32} {v_outMany : Int32} {v_outNumbers : Bool} {v_isGoing : Bool} {v_hasSpan : Bool} {v_spanCaptures : Int32} {v_isThere : Nat → Bool} {v_isSubject : Nat → Bool} {Q : Int32 → Int32 → Prop} (a0 : 0 ≤ v_taped.toInt) (a1 : v_taped.toInt ≤ 200) (hq : ∀ (r : Int32) (ov_thrown : Int32), ov_thrown.toInt = 0 → Q r ov_thrown) : w_X12_told p1 v_taped v_outMany v_outNumbers v_isGoing v_hasSpan v_spanCaptures v_isThere v_isSubject Q := by
  have q_t : (bz true).toInt = 1 := rfl
  have q_f : (bz false).toInt = 0 := rfl
  have q_m4 : ((-4) : Int32).toInt = (-4) := rfl
  have q_0 : (0 : Int32).toInt = 0 := rfl
  have q_1 : (1 : Int32).toInt = 1 := rfl
  unfold w_X12_told
  have j_9 : ∀ n_9 : Nat, ∀ (l2_9 : Int32) (l3_9 : Int32), 0 ≤ l2_9.toInt → l2_9.toInt ≤ l3_9.toInt → l3_9.toInt ≤ 6 → ((-1) * l3_9.toInt + 6).toNat < n_9 → w_X12_told_9 p1 v_taped v_outMany v_outNumbers v_isGoing v_hasSpan v_spanCaptures v_isThere v_isSubject Q 0 n_9 l2_9 l3_9 := by
    intro n_9
    induction n_9 with
    | zero =>
      intro l2_9 l3_9 f1 f2 f3 hm_9
      exfalso; omega
    | succ n_9 ih_9 =>
      intro l2_9 l3_9 f1 f2 f3 hm_9
      unfold w_X12_told_9
      unfold w_X12_told_9B
      refine ⟨fun c12 => ?_, fun c12 => ?_⟩
      · have f4 : 6 ≤ l3_9.toInt := i_le (a := 6) (b := l3_9.toInt) rfl rfl c12
        have j_43 : ∀ n_43 : Nat, ∀ (l3_43 : Int32) (l4_43 : Int32), 0 ≤ l3_43.toInt → l3_43.toInt ≤ l4_43.toInt → l4_43.toInt ≤ 4 → ((-1) * l4_43.toInt + 4).toNat < n_43 → w_X12_told_43 p1 v_taped v_outMany v_outNumbers v_isGoing v_hasSpan v_spanCaptures v_isSubject Q l2_9 0 n_43 l3_43 l4_43 := by
          intro n_43
          induction n_43 with
          | zero =>
            intro l3_43 l4_43 f5 f6 f7 hm_43
            exfalso; omega
          | succ n_43 ih_43 =>
            intro l3_43 l4_43 f5 f6 f7 hm_43
            unfold w_X12_told_43
            unfold w_X12_told_43B
            refine ⟨fun c46 => ?_, fun c46 => ?_⟩
            · have f8 : 4 ≤ l4_43.toInt := i_le (a := 4) (b := l4_43.toInt) rfl rfl c46
              refine ⟨fun c74_0 => ?_, fun c74_1 => ?_, fun c74_2 => ?_, fun c74_3 => ?_, fun c74_4 => ?_, fun c74_5 => ?_, fun c74_6 => ?_, ?_⟩
              · have f9 : p1.toInt = 0 := i_eq (a := p1.toInt) (b := 0) rfl rfl c74_0
                exact hq v_taped 0 (by omega)
              · have f10 : p1.toInt = 1 := i_eq (a := p1.toInt) (b := 1) rfl rfl c74_1
                exact hq l2_9 0 (by omega)
              · have f11 : p1.toInt = 2 := i_eq (a := p1.toInt) (b := 2) rfl rfl c74_2
                exact hq l3_43 0 (by omega)
              · have f12 : p1.toInt = 3 := i_eq (a := p1.toInt) (b := 3) rfl rfl c74_3
                exact hq v_outMany 0 (by omega)
              · have f13 : p1.toInt = 4 := i_eq (a := p1.toInt) (b := 4) rfl rfl c74_4
                have f14 : (0 ≤ (bz v_outNumbers).toInt ∧ (bz v_outNumbers).toInt ≤ 1) := i_bzr v_outNumbers
                have j_142 : ∀ (s0_142 : Int32), ((s0_142.toInt = 0 ∧ (bz v_outNumbers).toInt = 0) ∨ (s0_142.toInt = 1)) → w_X12_told_142 Q s0_142 0 := by
                  intro s0_142 f15
                  unfold w_X12_told_142
                  exact hq s0_142 0 (by omega)
                refine ⟨fun c134 => ?_, fun c134 => ?_⟩
                · have f16 : (bz v_outNumbers).toInt = 0 := i_eq (a := (bz v_outNumbers).toInt) (b := 0) rfl rfl c134
                  exact j_142 0 (by omega)
                · have f17 : (bz v_outNumbers).toInt ≠ 0 := i_ne (a := (bz v_outNumbers).toInt) (b := 0) rfl rfl c134
                  exact j_142 1 (by omega)
              · have f18 : p1.toInt = 5 := i_eq (a := p1.toInt) (b := 5) rfl rfl c74_5
                have f19 : (0 ≤ (bz v_hasSpan).toInt ∧ (bz v_hasSpan).toInt ≤ 1) := i_bzr v_hasSpan
                have j_158 : ∀ (s0_158 : Int32), ((s0_158.toInt = 0 ∧ (bz v_hasSpan).toInt = 0) ∨ (s0_158.toInt = v_spanCaptures.toInt)) → w_X12_told_158 Q s0_158 0 := by
                  intro s0_158 f20
                  unfold w_X12_told_158
                  exact hq s0_158 0 (by omega)
                refine ⟨fun c147 => ?_, fun c147 => ?_⟩
                · have f21 : (bz v_hasSpan).toInt = 0 := i_eq (a := (bz v_hasSpan).toInt) (b := 0) rfl rfl c147
                  exact j_158 0 (by omega)
                · have f22 : (bz v_hasSpan).toInt ≠ 0 := i_ne (a := (bz v_hasSpan).toInt) (b := 0) rfl rfl c147
                  exact j_158 v_spanCaptures (by omega)
              · have f23 : p1.toInt = 6 := i_eq (a := p1.toInt) (b := 6) rfl rfl c74_6
                have f24 : (0 ≤ (bz v_isGoing).toInt ∧ (bz v_isGoing).toInt ≤ 1) := i_bzr v_isGoing
                have j_171 : ∀ (s0_171 : Int32), ((s0_171.toInt = 0 ∧ (bz v_isGoing).toInt = 0) ∨ (s0_171.toInt = 1)) → w_X12_told_171 Q s0_171 0 := by
                  intro s0_171 f25
                  unfold w_X12_told_171
                  exact hq s0_171 0 (by omega)
                refine ⟨fun c163 => ?_, fun c163 => ?_⟩
                · have f26 : (bz v_isGoing).toInt = 0 := i_eq (a := (bz v_isGoing).toInt) (b := 0) rfl rfl c163
                  exact j_171 0 (by omega)
                · have f27 : (bz v_isGoing).toInt ≠ 0 := i_ne (a := (bz v_isGoing).toInt) (b := 0) rfl rfl c163
                  exact j_171 1 (by omega)
              · intro c74_0 c74_1 c74_2 c74_3 c74_4 c74_5 c74_6
                have f28 : p1.toInt ≠ 0 := i_ne (a := p1.toInt) (b := 0) rfl rfl c74_0
                have f29 : p1.toInt ≠ 1 := i_ne (a := p1.toInt) (b := 1) rfl rfl c74_1
                have f30 : p1.toInt ≠ 2 := i_ne (a := p1.toInt) (b := 2) rfl rfl c74_2
                have f31 : p1.toInt ≠ 3 := i_ne (a := p1.toInt) (b := 3) rfl rfl c74_3
                have f32 : p1.toInt ≠ 4 := i_ne (a := p1.toInt) (b := 4) rfl rfl c74_4
                have f33 : p1.toInt ≠ 5 := i_ne (a := p1.toInt) (b := 5) rfl rfl c74_5
                have f34 : p1.toInt ≠ 6 := i_ne (a := p1.toInt) (b := 6) rfl rfl c74_6
                exact hq (-4) 0 (by omega)
            · have f35 : l4_43.toInt < 4 := i_nle (a := 4) (b := l4_43.toInt) rfl rfl c46
              refine ⟨i_in (by omega) (by omega), ?_⟩
              intro x56 ex56
              have f36 : (0 ≤ x56.toInt ∧ x56.toInt ≤ 1) := i_bz ex56
              have j_65 : ∀ (s0_65 : Int32), ((s0_65.toInt = 0 ∧ x56.toInt = 0) ∨ (s0_65.toInt = 1)) → w_X12_told_65 Q (w_X12_told_43 p1 v_taped v_outMany v_outNumbers v_isGoing v_hasSpan v_spanCaptures v_isSubject Q l2_9 0 n_43) s0_65 l3_43 l4_43 := by
                intro s0_65 f37
                unfold w_X12_told_65
                intro x65 ex65
                have f38 : x65.toInt = l3_43.toInt + s0_65.toInt := i_add (a := l3_43.toInt) (b := s0_65.toInt) ex65 rfl rfl (by omega) (by omega)
                intro x67 ex67
                have f39 : x67.toInt = l4_43.toInt + 1 := i_add (a := l4_43.toInt) (b := 1) ex67 rfl rfl (by omega) (by omega)
                exact ih_43 x65 x67 (by omega) (by omega) (by omega) (by have h8_0 := i_rng l4_43; have h8_1 := i_rng x67; omega)
              refine ⟨fun c57 => ?_, fun c57 => ?_⟩
              · have f40 : x56.toInt = 0 := i_eq (a := x56.toInt) (b := 0) rfl rfl c57
                exact j_65 0 (by omega)
              · have f41 : x56.toInt ≠ 0 := i_ne (a := x56.toInt) (b := 0) rfl rfl c57
                exact j_65 1 (by omega)
        exact ⟨(4 : Int).toNat + 1, j_43   ((4 : Int).toNat + 1) 0 0 (by omega) (by omega) (by omega) (by omega)⟩
      · have f42 : l3_9.toInt < 6 := i_nle (a := 6) (b := l3_9.toInt) rfl rfl c12
        refine ⟨i_in (by omega) (by omega), ?_⟩
        intro x21 ex21
        have f43 : (0 ≤ x21.toInt ∧ x21.toInt ≤ 1) := i_bz ex21
        have j_30 : ∀ (s0_30 : Int32), ((s0_30.toInt = 0 ∧ x21.toInt = 0) ∨ (s0_30.toInt = 1)) → w_X12_told_30 Q (w_X12_told_9 p1 v_taped v_outMany v_outNumbers v_isGoing v_hasSpan v_spanCaptures v_isThere v_isSubject Q 0 n_9) s0_30 l2_9 l3_9 := by
          intro s0_30 f44
          unfold w_X12_told_30
          intro x30 ex30
          have f45 : x30.toInt = l2_9.toInt + s0_30.toInt := i_add (a := l2_9.toInt) (b := s0_30.toInt) ex30 rfl rfl (by omega) (by omega)
          intro x32 ex32
          have f46 : x32.toInt = l3_9.toInt + 1 := i_add (a := l3_9.toInt) (b := 1) ex32 rfl rfl (by omega) (by omega)
          exact ih_9 x30 x32 (by omega) (by omega) (by omega) (by have h8_0 := i_rng l3_9; have h8_1 := i_rng x32; omega)
        refine ⟨fun c22 => ?_, fun c22 => ?_⟩
        · have f47 : x21.toInt = 0 := i_eq (a := x21.toInt) (b := 0) rfl rfl c22
          exact j_30 0 (by omega)
        · have f48 : x21.toInt ≠ 0 := i_ne (a := x21.toInt) (b := 0) rfl rfl c22
          exact j_30 1 (by omega)
  exact ⟨(6 : Int).toNat + 1, j_9   ((6 : Int).toNat + 1) 0 0 (by omega) (by omega) (by omega) (by omega)⟩
set_option maxHeartbeats 4000000 in
theorem ok_X12_sign {p1 : Int32} {p2 : Int32} {v_thrown : Int32} {v_isSubject : Nat → Bool} {v_long0 : Nat → Int32} {v_signs : Nat → Int32} {Q : Int32 → Int32 → Prop} (b0 : rp (fun k v => 0 ≤ v ∧ v ≤ 100) v_long0 0 4) (b1 : rp (fun k v => 0 ≤ v ∧ v ≤ 65535) v_signs 0 400) (hq : ∀ (r : Int32) (ov_thrown : Int32), ((1 ≤ ov_thrown.toInt) ∨ (0 ≤ p1.toInt)) → ((1 ≤ ov_thrown.toInt) ∨ (p1.toInt ≤ 3)) → ((1 ≤ ov_thrown.toInt) ∨ (0 ≤ p2.toInt)) → ((1 ≤ ov_thrown.toInt) ∨ (p2.toInt ≤ 99)) → 0 ≤ ov_thrown.toInt → ov_thrown.toInt ≤ 2 → ((1 ≤ r.toInt) ∨ (0 ≤ p1.toInt)) → ((1 ≤ r.toInt) ∨ (p1.toInt ≤ 3)) → ((1 ≤ r.toInt) ∨ (0 ≤ p2.toInt)) → ((1 ≤ r.toInt) ∨ (p2.toInt ≤ 99)) → ((r.toInt = 32) ∨ (ov_thrown.toInt = 0 ∧ 0 ≤ r.toInt ∧ r.toInt ≤ 65535)) → Q r ov_thrown) : w_X12_sign p1 p2 v_thrown v_isSubject v_long0 v_signs Q := by
  have q_t : (bz true).toInt = 1 := rfl
  have q_f : (bz false).toInt = 0 := rfl
  have q_0 : (0 : Int32).toInt = 0 := rfl
  have q_1 : (1 : Int32).toInt = 1 := rfl
  have q_2 : (2 : Int32).toInt = 2 := rfl
  have q_3 : (3 : Int32).toInt = 3 := rfl
  have q_32 : (32 : Int32).toInt = 32 := rfl
  unfold w_X12_sign
  refine ok_X12_in  (fun r4 f1 f2 f3 f4 f5 f6 => ?_)
  have j_48 : ∀ (s0_48 : Int32), ((1 ≤ s0_48.toInt) ∨ (0 ≤ p1.toInt)) → ((1 ≤ s0_48.toInt) ∨ (p1.toInt ≤ 3)) → ((1 ≤ s0_48.toInt) ∨ (0 ≤ p2.toInt)) → ((1 ≤ s0_48.toInt) ∨ (p2.toInt ≤ 99)) → 0 ≤ s0_48.toInt → s0_48.toInt ≤ 2 → w_X12_sign_48 p1 p2 v_signs Q s0_48 v_thrown := by
    intro s0_48 f7 f8 f9 f10 f11 f12
    unfold w_X12_sign_48
    have j_75 : ∀ (s0_75 : Int32), ((1 ≤ s0_75.toInt) ∨ (0 ≤ p1.toInt)) → ((1 ≤ s0_75.toInt) ∨ (p1.toInt ≤ 3)) → ((1 ≤ s0_75.toInt) ∨ (0 ≤ p2.toInt)) → ((1 ≤ s0_75.toInt) ∨ (p2.toInt ≤ 99)) → ((s0_75.toInt = 32) ∨ (s0_48.toInt = 0 ∧ 0 ≤ s0_75.toInt ∧ s0_75.toInt ≤ 65535)) → (chr s0_75) → w_X12_sign_75 Q s0_75 s0_48 := by
      intro s0_75 f13 f14 f15 f16 f17 u75_0
      unfold w_X12_sign_75
      refine ⟨by first | assumption | decide, ?_⟩
      exact hq s0_75 s0_48 (by omega) (by omega) (by omega) (by omega) (by omega) (by omega) (by omega) (by omega) (by omega) (by omega) (by first | assumption | omega)
    refine ⟨fun c55 => ?_, fun c55 => ?_⟩
    · have f18 : s0_48.toInt ≠ 0 := i_ne (a := s0_48.toInt) (b := 0) rfl rfl c55
      exact j_75 32 (by omega) (by omega) (by omega) (by omega) (by omega) (by first | exact zchr ex69 | (unfold chr; decide))
    · have f19 : s0_48.toInt = 0 := i_eq (a := s0_48.toInt) (b := 0) rfl rfl c55
      intro x65 ex65
      have f20 : x65.toInt = 100 * p1.toInt := i_mul (a := 100) (b := p1.toInt) ex65 rfl rfl (by omega) (by omega)
      intro x67 ex67
      have f21 : x67.toInt = x65.toInt + p2.toInt := i_add (a := x65.toInt) (b := p2.toInt) ex67 rfl rfl (by omega) (by omega)
      refine ⟨i_in (by omega) (by omega), ?_⟩
      intro x68 ex68
      have f22 : 0 ≤ x68.toInt ∧ x68.toInt ≤ 65535 := by have h9 := rp_get (P := (fun k v => 0 ≤ v ∧ v ≤ 65535)) (a := x67.toInt) b1 ex68 rfl (by omega) (by omega) (by omega); omega
      intro x69 ex69
      have f23 : (0 ≤ x69.toInt ∧ x69.toInt ≤ 65535) := by have h9 := i_chr ex69; omega
      exact j_75 x69 (by omega) (by omega) (by omega) (by omega) (by omega) (by first | exact zchr ex69 | (unfold chr; decide))
  refine ⟨fun c7 => ?_, fun c7 => ?_⟩
  · have f24 : r4.toInt ≠ 0 := i_ne (a := r4.toInt) (b := 0) rfl rfl c7
    refine ⟨i_in (by omega) (by omega), ?_⟩
    intro x19 ex19
    have f25 : (0 ≤ x19.toInt ∧ x19.toInt ≤ 1) := i_bz ex19
    refine ⟨fun c20 => ?_, fun c20 => ?_⟩
    · have f26 : x19.toInt ≠ 0 := i_ne (a := x19.toInt) (b := 0) rfl rfl c20
      refine ⟨i_in (by omega) (by omega), ?_⟩
      intro x34 ex34
      have f27 : 0 ≤ x34.toInt ∧ x34.toInt ≤ 100 := by have h9 := rp_get (P := (fun k v => 0 ≤ v ∧ v ≤ 100)) (a := p1.toInt) b0 ex34 rfl (by omega) (by omega) (by omega); omega
      intro x36 ex36
      have f28 : x36.toInt = x34.toInt - 1 := i_sub (a := x34.toInt) (b := 1) ex36 rfl rfl (by omega) (by omega)
      refine ok_X12_in  (fun r37 f29 f30 f31 f32 f33 f34 => ?_)
      refine ⟨fun c40 => ?_, fun c40 => ?_⟩
      · have f35 : r37.toInt ≠ 0 := i_ne (a := r37.toInt) (b := 0) rfl rfl c40
        exact j_48 0 (by omega) (by omega) (by omega) (by omega) (by omega) (by omega)
      · have f36 : r37.toInt = 0 := i_eq (a := r37.toInt) (b := 0) rfl rfl c40
        exact j_48 2 (by omega) (by omega) (by omega) (by omega) (by omega) (by omega)
    · have f37 : x19.toInt = 0 := i_eq (a := x19.toInt) (b := 0) rfl rfl c20
      exact j_48 1 (by omega) (by omega) (by omega) (by omega) (by omega) (by omega)
  · have f38 : r4.toInt = 0 := i_eq (a := r4.toInt) (b := 0) rfl rfl c7
    exact j_48 2 (by omega) (by omega) (by omega) (by omega) (by omega) (by omega)
set_option maxHeartbeats 4000000 in
theorem ok_X12_place {v_faultPlace : Int32} {Q : Int32 → Int32 → Prop} (hq : ∀ (r : Int32) (ov_thrown : Int32), r.toInt = v_faultPlace.toInt → ov_thrown.toInt = 0 → Q r ov_thrown) : w_X12_place v_faultPlace Q := by
  have q_t : (bz true).toInt = 1 := rfl
  have q_f : (bz false).toInt = 0 := rfl
  have q_0 : (0 : Int32).toInt = 0 := rfl
  unfold w_X12_place
  exact hq v_faultPlace 0 (by omega) (by omega)
set_option maxHeartbeats 4000000 in
theorem ok_X12_steps {v_steps : Int32} {Q : Int32 → Int32 → Prop} (hq : ∀ (r : Int32) (ov_thrown : Int32), r.toInt = v_steps.toInt → ov_thrown.toInt = 0 → Q r ov_thrown) : w_X12_steps v_steps Q := by
  have q_t : (bz true).toInt = 1 := rfl
  have q_f : (bz false).toInt = 0 := rfl
  have q_0 : (0 : Int32).toInt = 0 := rfl
  unfold w_X12_steps
  exact hq v_steps 0 (by omega) (by omega)
set_option maxHeartbeats 4000000 in
theorem ok_X12_finding {v_finding : Int32} {Q : Int32 → Int32 → Prop} (hq : ∀ (r : Int32) (ov_thrown : Int32), r.toInt = v_finding.toInt → ov_thrown.toInt = 0 → Q r ov_thrown) : w_X12_finding v_finding Q := by
  have q_t : (bz true).toInt = 1 := rfl
  have q_f : (bz false).toInt = 0 := rfl
  have q_0 : (0 : Int32).toInt = 0 := rfl
  unfold w_X12_finding
  exact hq v_finding 0 (by omega) (by omega)
set_option maxHeartbeats 4000000 in
theorem ok_X12_clear {v_finding : Int32} {v_taped : Int32} {v_faultPlace : Int32} {v_outMany : Int32} {v_outNumbers : Bool} {v_steps : Int32} {v_isGoing : Bool} {v_hasSpan : Bool} {v_isThere : Nat → Bool} {v_isSubject : Nat → Bool} {v_many : Nat → Int32} {v_captures : Nat → Int32} {v_sort : Nat → Int32} {v_value : Nat → Int32} {v_least : Nat → Int32} {v_most : Nat → Int32} {v_holder : Nat → Int32} {v_parts : Nat → Int32} {v_end : Nat → Int32} {v_firstPart : Nat → Int32} {v_partBegin : Nat → Int32} {v_partEnd : Nat → Int32} {v_size : Nat → Int32} {v_positions : Nat → Int32} {v_goSlot : Int32} {Q : Int32 → Int32 → Int32 → Int32 → Int32 → Int32 → Bool → Int32 → Bool → Bool → (Nat → Bool) → (Nat → Bool) → Prop} (a0 : 0 ≤ v_taped.toInt) (a1 : v_taped.toInt ≤ 200) (hq : ∀ (r : Int32) (ov_thrown : Int32) (ov_finding : Int32) (ov_taped : Int32) (ov_faultPlace : Int32) (ov_outMany : Int32) (ov_outNumbers : Bool) (ov_steps : Int32) (ov_isGoing : Bool) (ov_hasSpan : Bool) (ov_isThere : Nat → Bool) (ov_isSubject : Nat → Bool), ov_thrown.toInt = 0 → ov_finding.toInt = 0 → ov_taped.toInt = 0 → ov_faultPlace.toInt + 1 = 0 → ov_outMany.toInt = 0 → (bz ov_outNumbers).toInt = 0 → ov_steps.toInt = 0 → (bz ov_isGoing).toInt = 0 → (bz ov_hasSpan).toInt = 0 → 0 ≤ r.toInt + 1 → 0 ≤ r.toInt → r.toInt ≤ 6 → r.toInt ≤ 7 → (zAll ov_isThere v_many v_captures v_sort v_value v_least v_most v_holder v_parts v_end v_firstPart v_partBegin v_partEnd v_size v_positions) → (zGo ov_isGoing ov_isThere v_goSlot.toInt) → (∀ j : Int, 0 ≤ j → j < 4 → ov_isSubject j.toNat = false) → Q r ov_thrown ov_finding ov_taped ov_faultPlace ov_outMany ov_outNumbers ov_steps ov_isGoing ov_hasSpan ov_isThere ov_isSubject) : w_X12_clear v_finding v_taped v_faultPlace v_outMany v_outNumbers v_steps v_isGoing v_hasSpan v_isThere v_isSubject Q := by
  have q_t : (bz true).toInt = 1 := rfl
  have q_f : (bz false).toInt = 0 := rfl
  have q_m1 : ((-1) : Int32).toInt = (-1) := rfl
  have q_0 : (0 : Int32).toInt = 0 := rfl
  have q_1 : (1 : Int32).toInt = 1 := rfl
  unfold w_X12_clear
  have j_9 : ∀ n_9 : Nat, ∀ (l1_9 : Int32) (l2_9 : Int32) (v_isThere_9 : Nat → Bool), 0 ≤ l1_9.toInt → l1_9.toInt ≤ l2_9.toInt → l2_9.toInt ≤ 6 → (zOff v_isThere_9 l2_9.toInt) → ((-1) * l2_9.toInt + 6).toNat < n_9 → w_X12_clear_9 Q 0 v_finding v_taped v_faultPlace v_outMany v_outNumbers v_steps v_isGoing v_hasSpan v_isSubject n_9 l1_9 l2_9 v_isThere_9 := by
    intro n_9
    induction n_9 with
    | zero =>
      intro l1_9 l2_9 v_isThere_9 f1 f2 f3 u9_0 hm_9
      exfalso; omega
    | succ n_9 ih_9 =>
      intro l1_9 l2_9 v_isThere_9 f1 f2 f3 u9_0 hm_9
      unfold w_X12_clear_9
      unfold w_X12_clear_9B
      refine ⟨fun c12 => ?_, fun c12 => ?_⟩
      · have f4 : 6 ≤ l2_9.toInt := i_le (a := 6) (b := l2_9.toInt) rfl rfl c12
        have j_47 : ∀ n_47 : Nat, ∀ (l2_47 : Int32) (v_isSubject_47 : Nat → Bool), 0 ≤ l2_47.toInt → l2_47.toInt ≤ 4 → (zOff v_isSubject_47 l2_47.toInt) → ((-1) * l2_47.toInt + 4).toNat < n_47 → w_X12_clear_47 Q l1_9 0 v_finding v_taped v_faultPlace v_outMany v_outNumbers v_steps v_isGoing v_hasSpan v_isThere_9 n_47 l2_47 v_isSubject_47 := by
          intro n_47
          induction n_47 with
          | zero =>
            intro l2_47 v_isSubject_47 f5 f6 u47_0 hm_47
            exfalso; omega
          | succ n_47 ih_47 =>
            intro l2_47 v_isSubject_47 f5 f6 u47_0 hm_47
            unfold w_X12_clear_47
            unfold w_X12_clear_47B
            refine ⟨fun c49 => ?_, fun c49 => ?_⟩
            · have f7 : 4 ≤ l2_47.toInt := i_le (a := 4) (b := l2_47.toInt) rfl rfl c49
              exact hq l1_9 0 0 0 (-1) 0 false 0 false false v_isThere_9 v_isSubject_47 (by omega) (by omega) (by omega) (by omega) (by omega) (by omega) (by omega) (by omega) (by omega) (by omega) (by omega) (by omega) (by omega) (by exact zAll_no u9_0 (by omega)) (by exact zGo_no) (by exact fun j j0 j1 => u47_0 j j0 (by omega))
            · have f8 : l2_47.toInt < 4 := i_nle (a := 4) (b := l2_47.toInt) rfl rfl c49
              refine ⟨i_in (by omega) (by omega), ?_⟩
              intro g58 eg58
              intro x59 ex59
              have f9 : x59.toInt = l2_47.toInt + 1 := i_add (a := l2_47.toInt) (b := 1) ex59 rfl rfl (by omega) (by omega)
              exact ih_47 x59 g58 (by omega) (by omega) (by first | exact zOff_0 | exact zOff_s u47_0 eg58 (by decide) (by omega) (by omega)) (by have h8_0 := i_rng l2_47; have h8_1 := i_rng x59; omega)
        exact ⟨(4 : Int).toNat + 1, j_47   ((4 : Int).toNat + 1) 0 v_isSubject (by omega) (by omega) (by first | exact zOff_0 | exact zOff_s u47_0 eg58 (by decide) (by omega) (by omega)) (by omega)⟩
      · have f10 : l2_9.toInt < 6 := i_nle (a := 6) (b := l2_9.toInt) rfl rfl c12
        refine ⟨i_in (by omega) (by omega), ?_⟩
        intro x21 ex21
        have f11 : (0 ≤ x21.toInt ∧ x21.toInt ≤ 1) := i_bz ex21
        have j_30 : ∀ (s0_30 : Int32), ((s0_30.toInt = 0 ∧ x21.toInt = 0) ∨ (s0_30.toInt = 1)) → w_X12_clear_30 Q (w_X12_clear_9 Q 0 v_finding v_taped v_faultPlace v_outMany v_outNumbers v_steps v_isGoing v_hasSpan v_isSubject n_9) s0_30 l1_9 l2_9 v_isThere_9 := by
          intro s0_30 f12
          unfold w_X12_clear_30
          intro x30 ex30
          have f13 : x30.toInt = l1_9.toInt + s0_30.toInt := i_add (a := l1_9.toInt) (b := s0_30.toInt) ex30 rfl rfl (by omega) (by omega)
          refine ⟨i_in (by omega) (by omega), ?_⟩
          intro g38 eg38
          intro x39 ex39
          have f14 : x39.toInt = l2_9.toInt + 1 := i_add (a := l2_9.toInt) (b := 1) ex39 rfl rfl (by omega) (by omega)
          exact ih_9 x30 x39 g38 (by omega) (by omega) (by omega) (by first | exact zOff_0 | exact zOff_s u9_0 eg38 (by decide) (by omega) (by omega)) (by have h8_0 := i_rng l2_9; have h8_1 := i_rng x39; omega)
        refine ⟨fun c22 => ?_, fun c22 => ?_⟩
        · have f15 : x21.toInt = 0 := i_eq (a := x21.toInt) (b := 0) rfl rfl c22
          exact j_30 0 (by omega)
        · have f16 : x21.toInt ≠ 0 := i_ne (a := x21.toInt) (b := 0) rfl rfl c22
          exact j_30 1 (by omega)
  exact ⟨(6 : Int).toNat + 1, j_9   ((6 : Int).toNat + 1) 0 0 v_isThere (by omega) (by omega) (by omega) (by first | exact zOff_0 | exact zOff_s u9_0 eg38 (by decide) (by omega) (by omega)) (by omega)⟩
set_option maxHeartbeats 4000000 in
theorem ok_X12_kindBars {p1 : Int32} {p2 : Int32} {v_many : Nat → Int32} {v_sort : Nat → Int32} {v_value : Nat → Int32} {v_least : Nat → Int32} {v_most : Nat → Int32} {v_mayEmpty : Nat → Bool} {v_holder : Nat → Int32} {v_parts : Nat → Int32} {v_end : Nat → Int32} {v_firstPart : Nat → Int32} {v_partBegin : Nat → Int32} {v_partEnd : Nat → Int32} {v_captures : Nat → Int32} {Q : Int32 → Prop} (a0 : 0 ≤ p1.toInt) (a1 : p1.toInt ≤ 5) (u0 : zSl v_sort v_value v_least v_most v_holder v_parts v_end v_firstPart v_partBegin v_partEnd (220 * p1.toInt) (420 * p1.toInt) (zg v_many p1.toInt) (zg v_captures p1.toInt)) (hq : ∀ (r : Int32), ((r.toInt = 0) ∨ (r.toInt + 6 = 0)) → (r.toInt = 0 → 1 ≤ p2.toInt → zKb v_sort (220 * p1.toInt) (zg v_many p1.toInt)) → Q r) : w_X12_kindBars p1 p2 v_many v_sort v_value v_least v_most v_mayEmpty Q := by
  have q_t : (bz true).toInt = 1 := rfl
  have q_f : (bz false).toInt = 0 := rfl
  have q_m6 : ((-6) : Int32).toInt = (-6) := rfl
  have q_0 : (0 : Int32).toInt = 0 := rfl
  have q_1 : (1 : Int32).toInt = 1 := rfl
  unfold w_X12_kindBars
  have f1 : 1 ≤ (zg v_many p1.toInt : Int) := (zS_n u0).1
  have f2 : (zg v_many p1.toInt : Int) ≤ 220 := (zS_n u0).2
  have f3 : 0 ≤ (zg v_captures p1.toInt : Int) := (zS_c u0).1
  have f4 : (zg v_captures p1.toInt : Int) ≤ 9 := (zS_c u0).2
  intro x4 ex4
  have f5 : x4.toInt = 220 * p1.toInt := i_mul (a := 220) (b := p1.toInt) ex4 rfl rfl (by omega) (by omega)
  have j_12 : ∀ n_12 : Nat, ∀ (l4_12 : Int32) (l5_12 : Int32), 0 ≤ l4_12.toInt → l4_12.toInt ≤ 1 → l4_12.toInt ≤ l5_12.toInt → (l4_12.toInt = 0 → zKb v_sort (220 * p1.toInt) l5_12.toInt) → ((-1) * l5_12.toInt + 2147483648).toNat < n_12 → w_X12_kindBars_12 p1 p2 v_many v_sort v_value v_least v_most v_mayEmpty Q x4 n_12 l4_12 l5_12 := by
    intro n_12
    induction n_12 with
    | zero =>
      intro l4_12 l5_12 f6 f7 f8 u12_0 hm_12
      exfalso; omega
    | succ n_12 ih_12 =>
      intro l4_12 l5_12 f6 f7 f8 u12_0 hm_12
      unfold w_X12_kindBars_12
      unfold w_X12_kindBars_12B
      refine ⟨i_in (by omega) (by omega), ?_⟩
      intro x19 ex19
      have f9 : x19.toInt = (zg v_many p1.toInt : Int) := zg_at ex19
      have j_150 : ((x19.toInt ≤ l5_12.toInt) ∨ (l5_12.toInt + 1 ≤ x19.toInt ∧ p2.toInt ≤ 0)) → (l4_12.toInt = 0 → 1 ≤ p2.toInt → zKb v_sort (220 * p1.toInt) (zg v_many p1.toInt)) → w_X12_kindBars_150 Q l4_12 := by
        intro f10 u150_0
        unfold w_X12_kindBars_150
        have j_161 : ∀ (s0_161 : Int32), ((s0_161.toInt = 0) ∨ (s0_161.toInt + 6 = 0)) → ((s0_161.toInt = 0 ∧ l4_12.toInt = 0) ∨ (s0_161.toInt + 6 = 0)) → (s0_161.toInt = 0 → 1 ≤ p2.toInt → zKb v_sort (220 * p1.toInt) (zg v_many p1.toInt)) → w_X12_kindBars_161 Q s0_161 := by
          intro s0_161 f11 f12 u161_0
          unfold w_X12_kindBars_161
          exact hq s0_161 (by omega) (by assumption)
        refine ⟨fun c152 => ?_, fun c152 => ?_⟩
        · have f13 : l4_12.toInt = 0 := i_eq (a := l4_12.toInt) (b := 0) rfl rfl c152
          exact j_161 0 (by omega) (by omega) (by first | exact fun z => absurd z (by decide) | exact fun _ => u150_0 (by omega))
        · have f14 : l4_12.toInt ≠ 0 := i_ne (a := l4_12.toInt) (b := 0) rfl rfl c152
          exact j_161 (-6) (by omega) (by omega) (by first | exact fun z => absurd z (by decide) | exact fun _ => u150_0 (by omega))
      refine ⟨fun c20 => ?_, fun c20 => ?_⟩
      · have f15 : x19.toInt ≤ l5_12.toInt := i_le (a := x19.toInt) (b := l5_12.toInt) rfl rfl c20
        exact j_150  (by omega) (by first | exact fun _ z => absurd z (by omega) | exact fun z _ => zKb_m (u12_0 z) (by omega))
      · have f16 : l5_12.toInt < x19.toInt := i_nle (a := x19.toInt) (b := l5_12.toInt) rfl rfl c20
        refine ⟨fun c24 => ?_, fun c24 => ?_⟩
        · have f17 : p2.toInt ≤ 0 := i_le (a := p2.toInt) (b := 0) rfl rfl c24
          exact j_150  (by omega) (by first | exact fun _ z => absurd z (by omega) | exact fun z _ => zKb_m (u12_0 z) (by omega))
        · have f18 : 0 < p2.toInt := i_nle (a := p2.toInt) (b := 0) rfl rfl c24
          intro x30 ex30
          have f19 : x30.toInt = x4.toInt + l5_12.toInt := i_add (a := x4.toInt) (b := l5_12.toInt) ex30 rfl rfl (by omega) (by omega)
          refine ⟨i_in (by omega) (by omega), ?_⟩
          intro x39 ex39
          have f20 : 0 ≤ x39.toInt ∧ x39.toInt ≤ 11 := by have h9 := zS_sort (k := (-220) * p1.toInt + x30.toInt) u0 ex39 (by omega) (by omega) (by omega); omega
          have j_83 : ∀ (s0_83 : Int32), ((s0_83.toInt = 0 ∧ l4_12.toInt = 0) ∨ (s0_83.toInt = 1)) → (s0_83.toInt = 0 → (l4_12.toInt = 0 ∧ x39.toInt ≠ 4 ∧ x39.toInt ≠ 9 ∧ x39.toInt ≠ 10)) → w_X12_kindBars_83 v_value v_least v_most v_mayEmpty Q (w_X12_kindBars_12 p1 p2 v_many v_sort v_value v_least v_most v_mayEmpty Q x4 n_12) s0_83 l5_12 x30 x39 := by
            intro s0_83 f21 u83_0
            unfold w_X12_kindBars_83
            have j_142 : ∀ (s0_142 : Int32), ((s0_142.toInt = 0 ∧ s0_83.toInt = 0) ∨ (s0_142.toInt = 1)) → (s0_142.toInt = 0 → s0_83.toInt = 0) → w_X12_kindBars_142 Q (w_X12_kindBars_12 p1 p2 v_many v_sort v_value v_least v_most v_mayEmpty Q x4 n_12) s0_142 l5_12 := by
              intro s0_142 f22 u142_0
              unfold w_X12_kindBars_142
              intro x144 ex144
              have f23 : x144.toInt = l5_12.toInt + 1 := i_add (a := l5_12.toInt) (b := 1) ex144 rfl rfl (by omega) (by omega)
              exact ih_12 s0_142 x144 (by omega) (by omega) (by omega) (by first | exact zKb_0 | exact zKb_s u12_0 u83_0 u142_0 ex39 (by omega) (by omega)) (by have h8_0 := i_rng l5_12; have h8_1 := i_rng x144; omega)
            have j_137 : w_X12_kindBars_137 Q (w_X12_kindBars_12 p1 p2 v_many v_sort v_value v_least v_most v_mayEmpty Q x4 n_12) l5_12 := by
              unfold w_X12_kindBars_137
              exact j_142 1 (by omega) (by omega)
            refine ⟨fun c87 => ?_, fun c87 => ?_⟩
            · have f24 : s0_83.toInt ≠ 0 := i_ne (a := s0_83.toInt) (b := 0) rfl rfl c87
              exact j_137  
            · have f25 : s0_83.toInt = 0 := i_eq (a := s0_83.toInt) (b := 0) rfl rfl c87
              have j_141 : w_X12_kindBars_141 Q (w_X12_kindBars_12 p1 p2 v_many v_sort v_value v_least v_most v_mayEmpty Q x4 n_12) l5_12 := by
                unfold w_X12_kindBars_141
                exact j_142 0 (by omega) (by omega)
              refine ⟨fun c94 => ?_, fun c94 => ?_⟩
              · have f26 : x39.toInt ≠ 7 := i_ne (a := x39.toInt) (b := 7) rfl rfl c94
                exact j_141  
              · have f27 : x39.toInt = 7 := i_eq (a := x39.toInt) (b := 7) rfl rfl c94
                refine ⟨i_in (by omega) (by omega), ?_⟩
                intro x103 ex103
                have f28 : 0 ≤ x103.toInt ∧ x103.toInt ≤ 65535 := by have h9 := zS_value (k := (-220) * p1.toInt + x30.toInt) u0 ex103 (by omega) (by omega) (by omega); omega
                refine ⟨fun c105 => ?_, fun c105 => ?_⟩
                · have f29 : x103.toInt = 2 := i_eq (a := x103.toInt) (b := 2) rfl rfl c105
                  exact j_137  
                · have f30 : x103.toInt ≠ 2 := i_ne (a := x103.toInt) (b := 2) rfl rfl c105
                  refine ⟨i_in (by omega) (by omega), ?_⟩
                  intro x114 ex114
                  have f31 : 0 ≤ x114.toInt + 1 ∧ x114.toInt ≤ 20 := by have h9 := zS_most (k := (-220) * p1.toInt + x30.toInt) u0 ex114 (by omega) (by omega) (by omega); omega
                  refine ⟨i_in (by omega) (by omega), ?_⟩
                  intro x121 ex121
                  have f32 : 0 ≤ x121.toInt ∧ x121.toInt ≤ 20 := by have h9 := zS_least (k := (-220) * p1.toInt + x30.toInt) u0 ex121 (by omega) (by omega) (by omega); omega
                  refine ⟨fun c122 => ?_, fun c122 => ?_⟩
                  · have f33 : x114.toInt ≤ x121.toInt := i_le (a := x114.toInt) (b := x121.toInt) rfl rfl c122
                    exact j_141  
                  · have f34 : x121.toInt < x114.toInt := i_nle (a := x114.toInt) (b := x121.toInt) rfl rfl c122
                    have f35 : l5_12.toInt + 2 ≤ (zg v_many p1.toInt : Int) := by have h9 := zS_ch (k := l5_12.toInt) u0 ex39 (by omega) (by omega) (by omega) (by omega); omega
                    intro x132 ex132
                    have f36 : x132.toInt = x30.toInt + 1 := i_add (a := x30.toInt) (b := 1) ex132 rfl rfl (by omega) (by omega)
                    refine ⟨i_in (by omega) (by omega), ?_⟩
                    intro x133 ex133
                    have f37 : (0 ≤ x133.toInt ∧ x133.toInt ≤ 1) := i_bz ex133
                    refine ⟨fun c134 => ?_, fun c134 => ?_⟩
                    · have f38 : x133.toInt = 0 := i_eq (a := x133.toInt) (b := 0) rfl rfl c134
                      exact j_141  
                    · have f39 : x133.toInt ≠ 0 := i_ne (a := x133.toInt) (b := 0) rfl rfl c134
                      exact j_137  
          have j_78 : w_X12_kindBars_78 v_value v_least v_most v_mayEmpty Q (w_X12_kindBars_12 p1 p2 v_many v_sort v_value v_least v_most v_mayEmpty Q x4 n_12) l5_12 x30 x39 := by
            unfold w_X12_kindBars_78
            exact j_83 1 (by omega) (by omega)
          refine ⟨fun c44 => ?_, fun c44 => ?_⟩
          · have f40 : l4_12.toInt ≠ 0 := i_ne (a := l4_12.toInt) (b := 0) rfl rfl c44
            exact j_78  
          · have f41 : l4_12.toInt = 0 := i_eq (a := l4_12.toInt) (b := 0) rfl rfl c44
            refine ⟨fun c50 => ?_, fun c50 => ?_⟩
            · have f42 : x39.toInt = 4 := i_eq (a := x39.toInt) (b := 4) rfl rfl c50
              exact j_78  
            · have f43 : x39.toInt ≠ 4 := i_ne (a := x39.toInt) (b := 4) rfl rfl c50
              refine ⟨fun c57 => ?_, fun c57 => ?_⟩
              · have f44 : x39.toInt = 9 := i_eq (a := x39.toInt) (b := 9) rfl rfl c57
                exact j_78  
              · have f45 : x39.toInt ≠ 9 := i_ne (a := x39.toInt) (b := 9) rfl rfl c57
                refine ⟨fun c64 => ?_, fun c64 => ?_⟩
                · have f46 : x39.toInt = 10 := i_eq (a := x39.toInt) (b := 10) rfl rfl c64
                  exact j_78  
                · have f47 : x39.toInt ≠ 10 := i_ne (a := x39.toInt) (b := 10) rfl rfl c64
                  have j_82 : w_X12_kindBars_82 v_value v_least v_most v_mayEmpty Q (w_X12_kindBars_12 p1 p2 v_many v_sort v_value v_least v_most v_mayEmpty Q x4 n_12) l5_12 x30 x39 := by
                    unfold w_X12_kindBars_82
                    exact j_83 0 (by omega) (by omega)
                  refine ⟨fun c70 => ?_, fun c70 => ?_⟩
                  · have f48 : x39.toInt ≠ 3 := i_ne (a := x39.toInt) (b := 3) rfl rfl c70
                    exact j_82  
                  · have f49 : x39.toInt = 3 := i_eq (a := x39.toInt) (b := 3) rfl rfl c70
                    refine ⟨fun c75 => ?_, fun c75 => ?_⟩
                    · have f50 : p2.toInt ≠ 2 := i_ne (a := p2.toInt) (b := 2) rfl rfl c75
                      exact j_82  
                    · have f51 : p2.toInt = 2 := i_eq (a := p2.toInt) (b := 2) rfl rfl c75
                      exact j_78  
  exact ⟨(2147483648 : Int).toNat + 1, j_12   ((2147483648 : Int).toNat + 1) 0 0 (by omega) (by omega) (by omega) (by first | exact zKb_0 | exact zKb_s u12_0 u83_0 u142_0 ex39 (by omega) (by omega)) (by omega)⟩
set_option maxHeartbeats 4000000 in
theorem ok_X12_sizeBars {p1 : Int32} {p2 : Int32} {v_size : Nat → Int32} {v_positions : Nat → Int32} {Q : Int32 → Prop} (a0 : 0 ≤ p1.toInt) (a1 : p1.toInt ≤ 5) (hq : ∀ (r : Int32), ((r.toInt = 0) ∨ (r.toInt + 7 = 0)) → ((r.toInt + 7 = 0) ∨ (r.toInt = 0)) → (r.toInt = 0 → ((1 ≤ p2.toInt → zg v_size (220 * p1.toInt) ≤ 200) ∧ (p2.toInt = 2 → zg v_positions (220 * p1.toInt) ≤ 60))) → Q r) : w_X12_sizeBars p1 p2 v_size v_positions Q := by
  have q_t : (bz true).toInt = 1 := rfl
  have q_f : (bz false).toInt = 0 := rfl
  have q_m7 : ((-7) : Int32).toInt = (-7) := rfl
  have q_0 : (0 : Int32).toInt = 0 := rfl
  unfold w_X12_sizeBars
  intro x4 ex4
  have f1 : x4.toInt = 220 * p1.toInt := i_mul (a := 220) (b := p1.toInt) ex4 rfl rfl (by omega) (by omega)
  have j_44 : ∀ (s0_44 : Int32), ((s0_44.toInt = 0) ∨ (s0_44.toInt + 7 = 0)) → ((s0_44.toInt + 7 = 0) ∨ (s0_44.toInt = 0)) → (s0_44.toInt = 0 → ((1 ≤ p2.toInt → zg v_size (220 * p1.toInt) ≤ 200) ∧ (p2.toInt = 2 → zg v_positions (220 * p1.toInt) ≤ 60))) → w_X12_sizeBars_44 Q s0_44 := by
    intro s0_44 f2 f3 u44_0
    unfold w_X12_sizeBars_44
    exact hq s0_44 (by omega) (by omega) (by assumption)
  have j_38 : ((1 ≤ p2.toInt) ∨ (p2.toInt = 2)) → w_X12_sizeBars_38 Q := by
    intro f4
    unfold w_X12_sizeBars_38
    exact j_44 (-7) (by omega) (by omega) (by first | exact fun z => absurd z (by decide) | exact fun _ => u43_0)
  have j_22 : ((p2.toInt ≤ 0) ∨ (1 ≤ p2.toInt)) → (1 ≤ p2.toInt → zg v_size (220 * p1.toInt) ≤ 200) → w_X12_sizeBars_22 p2 v_positions Q x4 := by
    intro f5 u22_0
    unfold w_X12_sizeBars_22
    have j_43 : (((1 ≤ p2.toInt → zg v_size (220 * p1.toInt) ≤ 200) ∧ (p2.toInt = 2 → zg v_positions (220 * p1.toInt) ≤ 60))) → w_X12_sizeBars_43 Q := by
      intro u43_0
      unfold w_X12_sizeBars_43
      exact j_44 0 (by omega) (by omega) (by first | exact fun z => absurd z (by decide) | exact fun _ => u43_0)
    refine ⟨fun c24 => ?_, fun c24 => ?_⟩
    · have f6 : p2.toInt ≠ 2 := i_ne (a := p2.toInt) (b := 2) rfl rfl c24
      exact j_43  (by first | exact ⟨u22_0, fun z => absurd z (by omega)⟩ | exact ⟨u22_0, fun _ => by rw [← zg_at2 ex32 (by omega)]; omega⟩)
    · have f7 : p2.toInt = 2 := i_eq (a := p2.toInt) (b := 2) rfl rfl c24
      refine ⟨i_in (by omega) (by omega), ?_⟩
      intro x32 ex32
      refine ⟨fun c35 => ?_, fun c35 => ?_⟩
      · have f8 : x32.toInt ≤ 60 := i_le (a := x32.toInt) (b := 60) rfl rfl c35
        exact j_43  (by first | exact ⟨u22_0, fun z => absurd z (by omega)⟩ | exact ⟨u22_0, fun _ => by rw [← zg_at2 ex32 (by omega)]; omega⟩)
      · have f9 : 60 < x32.toInt := i_nle (a := x32.toInt) (b := 60) rfl rfl c35
        exact j_38  (by omega)
  refine ⟨fun c7 => ?_, fun c7 => ?_⟩
  · have f10 : p2.toInt ≤ 0 := i_le (a := p2.toInt) (b := 0) rfl rfl c7
    exact j_22  (by omega) (by first | exact fun z => absurd z (by omega) | exact fun _ => by rw [← zg_at2 ex15 (by omega)]; omega)
  · have f11 : 0 < p2.toInt := i_nle (a := p2.toInt) (b := 0) rfl rfl c7
    refine ⟨i_in (by omega) (by omega), ?_⟩
    intro x15 ex15
    refine ⟨fun c19 => ?_, fun c19 => ?_⟩
    · have f12 : 200 < x15.toInt := i_lt (a := 200) (b := x15.toInt) rfl rfl c19
      exact j_38  (by omega)
    · have f13 : x15.toInt ≤ 200 := i_nlt (a := 200) (b := x15.toInt) rfl rfl c19
      exact j_22  (by omega) (by first | exact fun z => absurd z (by omega) | exact fun _ => by rw [← zg_at2 ex15 (by omega)]; omega)
set_option maxHeartbeats 4000000 in
theorem ok_X12_bars {p1 : Int32} {p2 : Int32} {v_many : Nat → Int32} {v_sort : Nat → Int32} {v_value : Nat → Int32} {v_least : Nat → Int32} {v_most : Nat → Int32} {v_size : Nat → Int32} {v_positions : Nat → Int32} {v_mayEmpty : Nat → Bool} {v_holder : Nat → Int32} {v_parts : Nat → Int32} {v_end : Nat → Int32} {v_firstPart : Nat → Int32} {v_partBegin : Nat → Int32} {v_partEnd : Nat → Int32} {v_captures : Nat → Int32} {Q : Int32 → Prop} (a0 : 0 ≤ p1.toInt) (a1 : p1.toInt ≤ 5) (u0 : zSl v_sort v_value v_least v_most v_holder v_parts v_end v_firstPart v_partBegin v_partEnd (220 * p1.toInt) (420 * p1.toInt) (zg v_many p1.toInt) (zg v_captures p1.toInt)) (hq : ∀ (r : Int32), ((r.toInt = 0) ∨ (r.toInt + 6 = 0) ∨ (r.toInt + 7 = 0)) → (r.toInt = 0 → 1 ≤ p2.toInt → zKb v_sort (220 * p1.toInt) (zg v_many p1.toInt)) → (r.toInt = 0 → ((1 ≤ p2.toInt → zg v_size (220 * p1.toInt) ≤ 200) ∧ (p2.toInt = 2 → zg v_positions (220 * p1.toInt) ≤ 60))) → Q r) : w_X12_bars p1 p2 v_many v_sort v_value v_least v_most v_size v_positions v_mayEmpty Q := by
  have q_t : (bz true).toInt = 1 := rfl
  have q_f : (bz false).toInt = 0 := rfl
  unfold w_X12_bars
  have f1 : 1 ≤ (zg v_many p1.toInt : Int) := (zS_n u0).1
  have f2 : (zg v_many p1.toInt : Int) ≤ 220 := (zS_n u0).2
  have f3 : 0 ≤ (zg v_captures p1.toInt : Int) := (zS_c u0).1
  have f4 : (zg v_captures p1.toInt : Int) ≤ 9 := (zS_c u0).2
  refine ok_X12_kindBars (v_holder := v_holder) (v_parts := v_parts) (v_end := v_end) (v_firstPart := v_firstPart) (v_partBegin := v_partBegin) (v_partEnd := v_partEnd) (v_captures := v_captures) (by omega) (by omega) (by first | assumption | omega) (fun r3 f5 u3_0 => ?_)
  have j_21 : ∀ (s0_21 : Int32), ((s0_21.toInt = 0) ∨ (s0_21.toInt + 6 = 0) ∨ (s0_21.toInt + 7 = 0)) → ((r3.toInt = 0) ∨ (s0_21.toInt = r3.toInt)) → (s0_21.toInt = 0 → 1 ≤ p2.toInt → zKb v_sort (220 * p1.toInt) (zg v_many p1.toInt)) → (s0_21.toInt = 0 → ((1 ≤ p2.toInt → zg v_size (220 * p1.toInt) ≤ 200) ∧ (p2.toInt = 2 → zg v_positions (220 * p1.toInt) ≤ 60))) → w_X12_bars_21 Q s0_21 := by
    intro s0_21 f6 f7 u21_0 u21_1
    unfold w_X12_bars_21
    exact hq s0_21 (by omega) (by assumption) (by assumption)
  refine ⟨fun c8 => ?_, fun c8 => ?_⟩
  · have f8 : r3.toInt = 0 := i_eq (a := r3.toInt) (b := 0) rfl rfl c8
    refine ok_X12_sizeBars (by omega) (by omega) (fun r18 f9 f10 u18_0 => ?_)
    exact j_21 r18 (by omega) (by omega) (by first | exact fun z => absurd z (by omega) | exact fun _ => u3_0 (by omega)) (by first | exact fun z => absurd z (by omega) | exact u18_0)
  · have f11 : r3.toInt ≠ 0 := i_ne (a := r3.toInt) (b := 0) rfl rfl c8
    exact j_21 r3 (by omega) (by omega) (by first | exact fun z => absurd z (by omega) | exact fun _ => u3_0 (by omega)) (by first | exact fun z => absurd z (by omega) | exact u18_0)
set_option maxHeartbeats 4000000 in
theorem ok_X12_isEndless {p1 : Int32} {v_sort : Nat → Int32} {v_most : Nat → Int32} {v_value : Nat → Int32} {v_least : Nat → Int32} {v_holder : Nat → Int32} {v_parts : Nat → Int32} {v_end : Nat → Int32} {v_firstPart : Nat → Int32} {v_partBegin : Nat → Int32} {v_partEnd : Nat → Int32} {gb9 : Int} {gq9 : Int} {gn9 : Int} {gc9 : Int} {Q : Int32 → Prop} (u0 : zSl v_sort v_value v_least v_most v_holder v_parts v_end v_firstPart v_partBegin v_partEnd gb9 gq9 gn9 gc9) (u1 : gb9 ≤ p1.toInt) (u2 : p1.toInt < gb9 + gn9) (u3 : 0 ≤ gb9 ∧ gb9 ≤ 1100) (u4 : 0 ≤ gq9 ∧ gq9 ≤ 2100) (hq : ∀ (r : Int32), 0 ≤ r.toInt → r.toInt ≤ 1 → (r.toInt = 1 → zg v_sort p1.toInt = 7) → Q r) : w_X12_isEndless p1 v_sort v_most Q := by
  have q_t : (bz true).toInt = 1 := rfl
  have q_f : (bz false).toInt = 0 := rfl
  have q_0 : (0 : Int32).toInt = 0 := rfl
  have q_1 : (1 : Int32).toInt = 1 := rfl
  unfold w_X12_isEndless
  have f1 : (gb9 : Int) ≤ p1.toInt := u1
  have f2 : p1.toInt + 1 ≤ (gb9 : Int) + (gn9 : Int) := u2
  have f3 : 0 ≤ (gb9 : Int) := u3.1
  have f4 : (gb9 : Int) ≤ 1100 := u3.2
  have f5 : 0 ≤ (gq9 : Int) := u4.1
  have f6 : (gq9 : Int) ≤ 2100 := u4.2
  have f7 : (gn9 : Int) ≤ 220 := (zS_n u0).2
  refine ⟨i_in (by omega) (by omega), ?_⟩
  intro x5 ex5
  have f8 : 0 ≤ x5.toInt ∧ x5.toInt ≤ 11 := by have h9 := zS_sort (k := (-1) * (gb9 : Int) + p1.toInt) u0 ex5 (by omega) (by omega) (by omega); omega
  have j_26 : ∀ (s0_26 : Int32), 0 ≤ s0_26.toInt → s0_26.toInt ≤ 1 → ((s0_26.toInt = 1 ∧ x5.toInt = 7) ∨ (s0_26.toInt = 0)) → (s0_26.toInt = 1 → zg v_sort p1.toInt = 7) → w_X12_isEndless_26 Q s0_26 := by
    intro s0_26 f9 f10 f11 u26_0
    unfold w_X12_isEndless_26
    refine ⟨i_01 (by omega) (by omega), ?_⟩
    exact hq s0_26 (by omega) (by omega) (by assumption)
  have j_25 : (True) → w_X12_isEndless_25 Q := by
    intro u25_0
    unfold w_X12_isEndless_25
    exact j_26 0 (by omega) (by omega) (by omega) (by first | exact fun z => absurd z (by decide) | exact fun _ => by rw [← zg_at ex5]; omega)
  refine ⟨fun c8 => ?_, fun c8 => ?_⟩
  · have f12 : x5.toInt ≠ 7 := i_ne (a := x5.toInt) (b := 7) rfl rfl c8
    exact j_25  (by trivial)
  · have f13 : x5.toInt = 7 := i_eq (a := x5.toInt) (b := 7) rfl rfl c8
    refine ⟨i_in (by omega) (by omega), ?_⟩
    intro x16 ex16
    have f14 : 0 ≤ x16.toInt + 1 ∧ x16.toInt ≤ 20 := by have h9 := zS_most (k := (-1) * (gb9 : Int) + p1.toInt) u0 ex16 (by omega) (by omega) (by omega); omega
    refine ⟨fun c18 => ?_, fun c18 => ?_⟩
    · have f15 : x16.toInt ≠ (-1) := i_ne (a := x16.toInt) (b := (-1)) rfl rfl c18
      exact j_25  (by trivial)
    · have f16 : x16.toInt = (-1) := i_eq (a := x16.toInt) (b := (-1)) rfl rfl c18
      exact j_26 1 (by omega) (by omega) (by omega) (by first | exact fun z => absurd z (by decide) | exact fun _ => by rw [← zg_at ex5]; omega)
set_option maxHeartbeats 4000000 in
theorem ok_X12_isWrapped {p1 : Int32} {p2 : Int32} {v_sort : Nat → Int32} {v_holder : Nat → Int32} {v_value : Nat → Int32} {v_least : Nat → Int32} {v_most : Nat → Int32} {v_parts : Nat → Int32} {v_end : Nat → Int32} {v_firstPart : Nat → Int32} {v_partBegin : Nat → Int32} {v_partEnd : Nat → Int32} {v_many : Nat → Int32} {v_captures : Nat → Int32} {Q : Int32 → Prop} (a0 : 0 ≤ p1.toInt) (a1 : p1.toInt ≤ 5) (a2 : 0 ≤ p2.toInt) (u0 : zSl v_sort v_value v_least v_most v_holder v_parts v_end v_firstPart v_partBegin v_partEnd (220 * p1.toInt) (420 * p1.toInt) (zg v_many p1.toInt) (zg v_captures p1.toInt)) (u1 : p2.toInt < zg v_many p1.toInt) (hq : ∀ (r : Int32), 0 ≤ r.toInt → r.toInt ≤ 1 → ((r.toInt = 0) ∨ (r.toInt = 1)) → (r.toInt = 1 → (5 ≤ zg v_sort (220 * p1.toInt + p2.toInt) ∧ zg v_sort (220 * p1.toInt + p2.toInt) ≤ 7)) → Q r) : w_X12_isWrapped p1 p2 v_sort v_holder Q := by
  have q_t : (bz true).toInt = 1 := rfl
  have q_f : (bz false).toInt = 0 := rfl
  have q_m1 : ((-1) : Int32).toInt = (-1) := rfl
  have q_0 : (0 : Int32).toInt = 0 := rfl
  have q_1 : (1 : Int32).toInt = 1 := rfl
  unfold w_X12_isWrapped
  have f1 : 1 ≤ (zg v_many p1.toInt : Int) := (zS_n u0).1
  have f2 : (zg v_many p1.toInt : Int) ≤ 220 := (zS_n u0).2
  have f3 : 0 ≤ (zg v_captures p1.toInt : Int) := (zS_c u0).1
  have f4 : (zg v_captures p1.toInt : Int) ≤ 9 := (zS_c u0).2
  have f5 : p2.toInt + 1 ≤ (zg v_many p1.toInt : Int) := u1
  intro x4 ex4
  have f6 : x4.toInt = 220 * p1.toInt := i_mul (a := 220) (b := p1.toInt) ex4 rfl rfl (by omega) (by omega)
  intro x6 ex6
  have f7 : x6.toInt = x4.toInt + p2.toInt := i_add (a := x4.toInt) (b := p2.toInt) ex6 rfl rfl (by omega) (by omega)
  refine ⟨i_in (by omega) (by omega), ?_⟩
  intro x13 ex13
  have f8 : 0 ≤ x13.toInt ∧ x13.toInt ≤ 11 := by have h9 := zS_sort (k := (-220) * p1.toInt + x6.toInt) u0 ex13 (by omega) (by omega) (by omega); omega
  refine ⟨i_in (by omega) (by omega), ?_⟩
  intro x21 ex21
  have f9 : 0 ≤ x21.toInt + 1 ∧ 220 * p1.toInt + x21.toInt + 1 ≤ x6.toInt ∧ ((x6.toInt ≤ 220 * p1.toInt) ∨ (0 ≤ x21.toInt)) := by have h9 := zS_holder (k := (-220) * p1.toInt + x6.toInt) u0 ex21 (by omega) (by omega) (by omega); omega
  have j_46 : ∀ (s0_46 : Int32), ((0 ≤ x21.toInt ∧ 0 ≤ x21.toInt + 1 ∧ 220 * p1.toInt + x21.toInt + 1 ≤ x6.toInt ∧ 0 ≤ s0_46.toInt ∧ s0_46.toInt ≤ 11) ∨ (s0_46.toInt + 1 = 0 ∧ x21.toInt + 1 ≤ 0)) → w_X12_isWrapped_46 Q s0_46 x13 := by
    intro s0_46 f10
    unfold w_X12_isWrapped_46
    have j_107 : ∀ (s0_107 : Int32), 0 ≤ s0_107.toInt → s0_107.toInt ≤ 1 → ((s0_107.toInt = 0) ∨ (s0_107.toInt = 1)) → (s0_107.toInt = 1 → (5 ≤ x13.toInt ∧ x13.toInt ≤ 7)) → w_X12_isWrapped_107 Q s0_107 := by
      intro s0_107 f11 f12 f13 u107_0
      unfold w_X12_isWrapped_107
      refine ⟨i_01 (by omega) (by omega), ?_⟩
      exact hq s0_107 (by omega) (by omega) (by omega) (by rw [← zg_at2 ex13 (by omega)]; exact u107_0)
    have j_102 : (5 ≤ x13.toInt ∧ x13.toInt ≤ 7) → w_X12_isWrapped_102 Q := by
      intro u102_0
      unfold w_X12_isWrapped_102
      exact j_107 1 (by omega) (by omega) (by omega) (by first | exact fun z => absurd z (by decide) | exact fun _ => u102_0)
    have j_74 : (True) → w_X12_isWrapped_74 Q x13 s0_46 := by
      intro u74_0
      unfold w_X12_isWrapped_74
      have j_88 : (True) → w_X12_isWrapped_88 Q x13 s0_46 := by
        intro u88_0
        unfold w_X12_isWrapped_88
        have j_106 : (True) → w_X12_isWrapped_106 Q := by
          intro u106_0
          unfold w_X12_isWrapped_106
          exact j_107 0 (by omega) (by omega) (by omega) (by first | exact fun z => absurd z (by decide) | exact fun _ => u102_0)
        refine ⟨fun c92 => ?_, fun c92 => ?_⟩
        · have f14 : x13.toInt ≠ 7 := i_ne (a := x13.toInt) (b := 7) rfl rfl c92
          exact j_106  (by trivial)
        · have f15 : x13.toInt = 7 := i_eq (a := x13.toInt) (b := 7) rfl rfl c92
          refine ⟨fun c99 => ?_, fun c99 => ?_⟩
          · have f16 : s0_46.toInt ≠ 7 := i_ne (a := s0_46.toInt) (b := 7) rfl rfl c99
            exact j_106  (by trivial)
          · have f17 : s0_46.toInt = 7 := i_eq (a := s0_46.toInt) (b := 7) rfl rfl c99
            exact j_102  (by omega)
      refine ⟨fun c78 => ?_, fun c78 => ?_⟩
      · have f18 : x13.toInt ≠ 6 := i_ne (a := x13.toInt) (b := 6) rfl rfl c78
        exact j_88  (by trivial)
      · have f19 : x13.toInt = 6 := i_eq (a := x13.toInt) (b := 6) rfl rfl c78
        refine ⟨fun c85 => ?_, fun c85 => ?_⟩
        · have f20 : s0_46.toInt = 6 := i_eq (a := s0_46.toInt) (b := 6) rfl rfl c85
          exact j_102  (by omega)
        · have f21 : s0_46.toInt ≠ 6 := i_ne (a := s0_46.toInt) (b := 6) rfl rfl c85
          exact j_88  (by trivial)
    have j_61 : ((x13.toInt = 5) ∨ (x13.toInt = 6)) → (x13.toInt = 5 ∨ x13.toInt = 6) → w_X12_isWrapped_61 Q x13 s0_46 := by
      intro f22 u61_0
      unfold w_X12_isWrapped_61
      refine ⟨fun c64 => ?_, fun c64 => ?_⟩
      · have f23 : s0_46.toInt = 5 := i_eq (a := s0_46.toInt) (b := 5) rfl rfl c64
        exact j_102  (by omega)
      · have f24 : s0_46.toInt ≠ 5 := i_ne (a := s0_46.toInt) (b := 5) rfl rfl c64
        refine ⟨fun c71 => ?_, fun c71 => ?_⟩
        · have f25 : s0_46.toInt = 7 := i_eq (a := s0_46.toInt) (b := 7) rfl rfl c71
          exact j_102  (by omega)
        · have f26 : s0_46.toInt ≠ 7 := i_ne (a := s0_46.toInt) (b := 7) rfl rfl c71
          exact j_74  (by trivial)
    refine ⟨fun c51 => ?_, fun c51 => ?_⟩
    · have f27 : x13.toInt = 5 := i_eq (a := x13.toInt) (b := 5) rfl rfl c51
      exact j_61  (by omega) (by omega)
    · have f28 : x13.toInt ≠ 5 := i_ne (a := x13.toInt) (b := 5) rfl rfl c51
      refine ⟨fun c58 => ?_, fun c58 => ?_⟩
      · have f29 : x13.toInt ≠ 6 := i_ne (a := x13.toInt) (b := 6) rfl rfl c58
        exact j_74  (by trivial)
      · have f30 : x13.toInt = 6 := i_eq (a := x13.toInt) (b := 6) rfl rfl c58
        exact j_61  (by omega) (by omega)
  refine ⟨fun c22 => ?_, fun c22 => ?_⟩
  · have f31 : 0 ≤ x21.toInt := i_le (a := 0) (b := x21.toInt) rfl rfl c22
    intro x37 ex37
    have f32 : x37.toInt = 220 * p1.toInt := i_mul (a := 220) (b := p1.toInt) ex37 rfl rfl (by omega) (by omega)
    refine ⟨i_in (by omega) (by omega), ?_⟩
    intro x43 ex43
    have f33 : x43.toInt = x21.toInt := congrArg Int32.toInt (ex43.trans ex21.symm)
    have f34 : 0 ≤ x43.toInt + 1 ∧ 220 * p1.toInt + x43.toInt + 1 ≤ x6.toInt ∧ ((x6.toInt ≤ 220 * p1.toInt) ∨ (0 ≤ x43.toInt)) := by have h9 := zS_holder (k := (-220) * p1.toInt + x6.toInt) u0 ex43 (by omega) (by omega) (by omega); omega
    intro x44 ex44
    have f35 : x44.toInt = x37.toInt + x43.toInt := i_add (a := x37.toInt) (b := x43.toInt) ex44 rfl rfl (by omega) (by omega)
    refine ⟨i_in (by omega) (by omega), ?_⟩
    intro x45 ex45
    have f36 : 0 ≤ x45.toInt ∧ x45.toInt ≤ 11 := by have h9 := zS_sort (k := (-220) * p1.toInt + x44.toInt) u0 ex45 (by omega) (by omega) (by omega); omega
    exact j_46 x45 (by omega)
  · have f37 : x21.toInt < 0 := i_nle (a := 0) (b := x21.toInt) rfl rfl c22
    exact j_46 (-1) (by omega)
