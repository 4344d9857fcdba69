set_option maxHeartbeats 4000000 in
theorem ok_X12_in {p0 : Int32} {p1 : Int32} {p2 : Int32} {Q : Int32 → Prop} (hq : ∀ (r : Int32), 0 ≤ r.toInt → r.toInt ≤ 1 → ((r.toInt = 0) ∨ (p1.toInt ≤ p0.toInt)) → ((r.toInt = 0) ∨ (p0.toInt ≤ p2.toInt)) → ((r.toInt = 1) ∨ (p0.toInt + 1 ≤ p1.toInt) ∨ (p2.toInt + 1 ≤ p0.toInt)) → ((r.toInt = 1 ∧ p1.toInt ≤ p0.toInt ∧ p0.toInt ≤ p2.toInt) ∨ (r.toInt = 0)) → Q r) : w_X12_in p0 p1 p2 Q := by
  have q_t : (bz true).toInt = 1 := rfl
  have q_f : (bz false).toInt = 0 := rfl
  have q_0 : (0 : Int32).toInt = 0 := rfl
  have q_1 : (1 : Int32).toInt = 1 := rfl
  unfold w_X12_in
  have j_15 : ∀ (s0_15 : Int32), 0 ≤ s0_15.toInt → s0_15.toInt ≤ 1 → ((s0_15.toInt = 0) ∨ (p1.toInt ≤ p0.toInt)) → ((s0_15.toInt = 0) ∨ (p0.toInt ≤ p2.toInt)) → ((s0_15.toInt = 1) ∨ (p0.toInt + 1 ≤ p1.toInt) ∨ (p2.toInt + 1 ≤ p0.toInt)) → ((s0_15.toInt = 1 ∧ p1.toInt ≤ p0.toInt ∧ p0.toInt ≤ p2.toInt) ∨ (s0_15.toInt = 0)) → w_X12_in_15 Q s0_15 := by
    intro s0_15 f1 f2 f3 f4 f5 f6
    unfold w_X12_in_15
    refine ⟨i_01 (by omega) (by omega), ?_⟩
    exact hq s0_15 (by omega) (by omega) (by omega) (by omega) (by omega) (by omega)
  have j_14 : ((p0.toInt + 1 ≤ p1.toInt) ∨ (p1.toInt ≤ p0.toInt ∧ p2.toInt + 1 ≤ p0.toInt)) → w_X12_in_14 Q := by
    intro f7
    unfold w_X12_in_14
    exact j_15 0 (by omega) (by omega) (by omega) (by omega) (by omega) (by omega)
  refine ⟨fun c2 => ?_, fun c2 => ?_⟩
  · have f8 : p0.toInt < p1.toInt := i_lt (a := p0.toInt) (b := p1.toInt) rfl rfl c2
    exact j_14  (by omega)
  · have f9 : p1.toInt ≤ p0.toInt := i_nlt (a := p0.toInt) (b := p1.toInt) rfl rfl c2
    refine ⟨fun c7 => ?_, fun c7 => ?_⟩
    · have f10 : p2.toInt < p0.toInt := i_lt (a := p2.toInt) (b := p0.toInt) rfl rfl c7
      exact j_14  (by omega)
    · have f11 : p0.toInt ≤ p2.toInt := i_nlt (a := p2.toInt) (b := p0.toInt) rfl rfl c7
      exact j_15 1 (by omega) (by omega) (by omega) (by omega) (by omega) (by omega)

set_option maxHeartbeats 4000000 in
theorem ok_X12_wrongSlot {p1 : Int32} {v_finding : Int32} {v_isThere : Nat → Bool} {Q : Int32 → Int32 → Prop} (hq : ∀ (r : Int32) (ov_finding : Int32), ((r.toInt = 0 ∧ ov_finding.toInt = v_finding.toInt) ∨ (r.toInt + 2 = 0 ∧ ov_finding.toInt = 2) ∨ (r.toInt + 2 = 0 ∧ ov_finding.toInt = v_finding.toInt)) → ((r.toInt ≠ 0) ∨ (0 ≤ p1.toInt)) → ((r.toInt ≠ 0) ∨ (p1.toInt ≤ 5)) → (r.toInt = 0 → v_isThere p1.toNatClampNeg = true) → Q r ov_finding) : w_X12_wrongSlot p1 v_finding v_isThere Q := by
  have q_t : (bz true).toInt = 1 := rfl
  have q_f : (bz false).toInt = 0 := rfl
  have q_m2 : ((-2) : Int32).toInt = (-2) := rfl
  have q_0 : (0 : Int32).toInt = 0 := rfl
  have q_2 : (2 : Int32).toInt = 2 := rfl
  have q_5 : (5 : Int32).toInt = 5 := rfl
  unfold w_X12_wrongSlot
  refine ok_X12_in  (fun r3 f1 f2 f3 f4 f5 f6 => ?_)
  refine ⟨fun c6 => ?_, fun c6 => ?_⟩
  · have f7 : r3.toInt ≠ 0 := i_ne (a := r3.toInt) (b := 0) rfl rfl c6
    refine ⟨i_in (by omega) (by omega), ?_⟩
    intro x17 ex17
    have f8 : (0 ≤ x17.toInt ∧ x17.toInt ≤ 1) := i_bz ex17
    refine ⟨fun c18 => ?_, fun c18 => ?_⟩
    · have f9 : x17.toInt ≠ 0 := i_ne (a := x17.toInt) (b := 0) rfl rfl c18
      exact hq 0 v_finding (by omega) (by omega) (by omega) (by exact fun _ => zbz_t ex17 (by omega))
    · have f10 : x17.toInt = 0 := i_eq (a := x17.toInt) (b := 0) rfl rfl c18
      exact hq (-2) 2 (by omega) (by omega) (by omega) (by exact fun z => absurd z (by decide))
  · have f11 : r3.toInt = 0 := i_eq (a := r3.toInt) (b := 0) rfl rfl c6
    exact hq (-2) v_finding (by omega) (by omega) (by omega) (by exact fun z => absurd z (by decide))
set_option maxHeartbeats 4000000 in
theorem ok_X12_otherCase {p0 : Int32} {Q : Int32 → Prop} (a0 : 0 ≤ p0.toInt) (a1 : p0.toInt ≤ 65535) (hq : ∀ (r : Int32), 0 ≤ r.toInt → r.toInt ≤ 65535 → ((r.toInt = p0.toInt) ∨ (r.toInt ≤ 122 ∧ p0.toInt ≤ 122)) → ((p0.toInt ≤ 64) ∨ (91 ≤ p0.toInt) ∨ (r.toInt = p0.toInt + 32)) → ((p0.toInt ≤ 96) ∨ (123 ≤ p0.toInt) ∨ (r.toInt + 32 = p0.toInt)) → ((65 ≤ p0.toInt ∧ p0.toInt ≤ 90) ∨ (97 ≤ p0.toInt ∧ p0.toInt ≤ 122) ∨ (r.toInt = p0.toInt)) → Q r) : w_X12_otherCase p0 Q := by
  have q_t : (bz true).toInt = 1 := rfl
  have q_f : (bz false).toInt = 0 := rfl
  have q_65 : (65 : Int32).toInt = 65 := rfl
  have q_90 : (90 : Int32).toInt = 90 := rfl
  have q_97 : (97 : Int32).toInt = 97 := rfl
  have q_122 : (122 : Int32).toInt = 122 := rfl
  unfold w_X12_otherCase
  refine ok_X12_in  (fun r5 f1 f2 f3 f4 f5 f6 => ?_)
  have j_37 : ∀ (s0_37 : Int32), 0 ≤ s0_37.toInt → s0_37.toInt ≤ 65535 → ((s0_37.toInt = p0.toInt) ∨ (s0_37.toInt ≤ 122 ∧ p0.toInt ≤ 122)) → ((p0.toInt ≤ 64) ∨ (91 ≤ p0.toInt) ∨ (s0_37.toInt = p0.toInt + 32)) → ((p0.toInt ≤ 96) ∨ (123 ≤ p0.toInt) ∨ (s0_37.toInt + 32 = p0.toInt)) → ((65 ≤ p0.toInt ∧ p0.toInt ≤ 90) ∨ (97 ≤ p0.toInt ∧ p0.toInt ≤ 122) ∨ (s0_37.toInt = p0.toInt)) → ((s0_37.toInt = p0.toInt ∧ r5.toInt = 0) ∨ (r5.toInt = 0 ∧ s0_37.toInt + 32 = p0.toInt) ∨ (s0_37.toInt = p0.toInt + 32)) → w_X12_otherCase_37 Q s0_37 := by
    intro s0_37 f7 f8 f9 f10 f11 f12 f13
    unfold w_X12_otherCase_37
    exact hq s0_37 (by omega) (by omega) (by omega) (by omega) (by omega) (by omega)
  refine ⟨fun c8 => ?_, fun c8 => ?_⟩
  · have f14 : r5.toInt = 0 := i_eq (a := r5.toInt) (b := 0) rfl rfl c8
    refine ok_X12_in  (fun r23 f15 f16 f17 f18 f19 f20 => ?_)
    refine ⟨fun c26 => ?_, fun c26 => ?_⟩
    · have f21 : r23.toInt = 0 := i_eq (a := r23.toInt) (b := 0) rfl rfl c26
      exact j_37 p0 (by omega) (by omega) (by omega) (by omega) (by omega) (by omega) (by omega)
    · have f22 : r23.toInt ≠ 0 := i_ne (a := r23.toInt) (b := 0) rfl rfl c26
      intro x32 ex32
      have f23 : x32.toInt = p0.toInt - 32 := i_sub (a := p0.toInt) (b := 32) ex32 rfl rfl (by omega) (by omega)
      exact j_37 x32 (by omega) (by omega) (by omega) (by omega) (by omega) (by omega) (by omega)
  · have f24 : r5.toInt ≠ 0 := i_ne (a := r5.toInt) (b := 0) rfl rfl c8
    intro x14 ex14
    have f25 : x14.toInt = p0.toInt + 32 := i_add (a := p0.toInt) (b := 32) ex14 rfl rfl (by omega) (by omega)
    exact j_37 x14 (by omega) (by omega) (by omega) (by omega) (by omega) (by omega) (by omega)
set_option maxHeartbeats 4000000 in
theorem ok_X12_isInParts {p1 : Int32} {p2 : Int32} {v_parts : Nat → Int32} {v_firstPart : Nat → Int32} {v_partBegin : Nat → Int32} {v_partEnd : Nat → Int32} {v_sort : Nat → Int32} {v_value : Nat → Int32} {v_least : Nat → Int32} {v_most : Nat → Int32} {v_holder : Nat → Int32} {v_end : Nat → Int32} {gb9 : Int} {gq9 : Int} {gn9 : Int} {gc9 : Int} {Q : Int32 → Prop} (u0 : zSl v_sort v_value v_least v_most v_holder v_parts v_end v_firstPart v_partBegin v_partEnd gb9 gq9 gn9 gc9) (u1 : gb9 ≤ p1.toInt) (u2 : p1.toInt < gb9 + gn9) (u3 : 0 ≤ gb9 ∧ gb9 ≤ 1100) (u4 : 0 ≤ gq9 ∧ gq9 ≤ 2100) (u5 : zg v_sort p1.toInt = 2) (hq : ∀ (r : Int32), 0 ≤ r.toInt + 1 → 0 ≤ r.toInt → r.toInt ≤ 1 → r.toInt ≤ 2 → r.toInt ≤ p1.toInt + 1 → Q r) : w_X12_isInParts p1 p2 v_parts v_firstPart v_partBegin v_partEnd Q := by
  have q_t : (bz true).toInt = 1 := rfl
  have q_f : (bz false).toInt = 0 := rfl
  have q_0 : (0 : Int32).toInt = 0 := rfl
  have q_1 : (1 : Int32).toInt = 1 := rfl
  unfold w_X12_isInParts
  have f1 : (gb9 : Int) ≤ p1.toInt := u1
  have f2 : p1.toInt + 1 ≤ (gb9 : Int) + (gn9 : Int) := u2
  have f3 : 0 ≤ (gb9 : Int) := u3.1
  have f4 : (gb9 : Int) ≤ 1100 := u3.2
  have f5 : 0 ≤ (gq9 : Int) := u4.1
  have f6 : (gq9 : Int) ≤ 2100 := u4.2
  have f7 : (gn9 : Int) ≤ 220 := (zS_n u0).2
  refine ⟨i_in (by omega) (by omega), ?_⟩
  intro x7 ex7
  have f8 : ((gq9 : Int) ≤ x7.toInt ∧ x7.toInt ≤ (gq9 : Int) + 420) := zS_fp0 (k := p1.toInt - gb9) u0 ex7 (by omega) (by omega) (by omega) u5
  have j_10 : ∀ n_10 : Nat, ∀ (l3_10 : Int32) (l4_10 : Int32), 0 ≤ l3_10.toInt → l3_10.toInt ≤ 1 → l3_10.toInt ≤ l4_10.toInt → l4_10.toInt ≤ 2520 → x7.toInt ≤ l4_10.toInt → ((-1) * l4_10.toInt + 2147483648).toNat < n_10 → w_X12_isInParts_10 p1 p2 v_parts v_firstPart v_partBegin v_partEnd Q n_10 l3_10 l4_10 := by
    intro n_10
    induction n_10 with
    | zero =>
      intro l3_10 l4_10 f9 f10 f11 f12 f13 hm_10
      exfalso; omega
    | succ n_10 ih_10 =>
      intro l3_10 l4_10 f9 f10 f11 f12 f13 hm_10
      unfold w_X12_isInParts_10
      unfold w_X12_isInParts_10B
      refine ⟨i_in (by omega) (by omega), ?_⟩
      intro x17 ex17
      have f14 : x17.toInt = x7.toInt := congrArg Int32.toInt (ex17.trans ex7.symm)
      refine ⟨i_in (by omega) (by omega), ?_⟩
      intro x23 ex23
      have f15 : ((gq9 : Int) ≤ x17.toInt ∧ 0 ≤ x23.toInt ∧ x17.toInt + x23.toInt ≤ (gq9 : Int) + 420) := zS_fp (k := p1.toInt - gb9) u0 ex17 ex23 (by omega) (by omega) (by omega) (by omega) u5
      intro x24 ex24
      have f16 : x24.toInt = x17.toInt + x23.toInt := i_add (a := x17.toInt) (b := x23.toInt) ex24 rfl rfl (by omega) (by omega)
      refine ⟨fun c25 => ?_, fun c25 => ?_⟩
      · have f17 : x24.toInt ≤ l4_10.toInt := i_le (a := x24.toInt) (b := l4_10.toInt) rfl rfl c25
        refine ⟨i_01 (by omega) (by omega), ?_⟩
        exact hq l3_10 (by omega) (by omega) (by omega) (by omega) (by omega)
      · have f18 : l4_10.toInt < x24.toInt := i_nle (a := x24.toInt) (b := l4_10.toInt) rfl rfl c25
        have j_58 : ∀ (s0_58 : Int32), 0 ≤ s0_58.toInt → s0_58.toInt ≤ 1 → ((s0_58.toInt = 0 ∧ l3_10.toInt = 0) ∨ (s0_58.toInt = 1)) → w_X12_isInParts_58 Q (w_X12_isInParts_10 p1 p2 v_parts v_firstPart v_partBegin v_partEnd Q n_10) s0_58 l4_10 := by
          intro s0_58 f19 f20 f21
          unfold w_X12_isInParts_58
          intro x59 ex59
          have f22 : x59.toInt = l4_10.toInt + 1 := i_add (a := l4_10.toInt) (b := 1) ex59 rfl rfl (by omega) (by omega)
          exact ih_10 s0_58 x59 (by omega) (by omega) (by omega) (by omega) (by omega) (by have h8_0 := i_rng l4_10; have h8_1 := i_rng x59; omega)
        have j_53 : w_X12_isInParts_53 Q (w_X12_isInParts_10 p1 p2 v_parts v_firstPart v_partBegin v_partEnd Q n_10) l4_10 := by
          unfold w_X12_isInParts_53
          exact j_58 1 (by omega) (by omega) (by omega)
        refine ⟨fun c29 => ?_, fun c29 => ?_⟩
        · have f23 : l3_10.toInt ≠ 0 := i_ne (a := l3_10.toInt) (b := 0) rfl rfl c29
          exact j_53  
        · have f24 : l3_10.toInt = 0 := i_eq (a := l3_10.toInt) (b := 0) rfl rfl c29
          refine ⟨i_in (by omega) (by omega), ?_⟩
          intro x39 ex39
          refine ⟨i_in (by omega) (by omega), ?_⟩
          intro x46 ex46
          refine ok_X12_in  (fun r47 f25 f26 f27 f28 f29 f30 => ?_)
          refine ⟨fun c50 => ?_, fun c50 => ?_⟩
          · have f31 : r47.toInt = 0 := i_eq (a := r47.toInt) (b := 0) rfl rfl c50
            exact j_58 0 (by omega) (by omega) (by omega)
          · have f32 : r47.toInt ≠ 0 := i_ne (a := r47.toInt) (b := 0) rfl rfl c50
            exact j_53  
  exact ⟨((-1) * x7.toInt + 2147483648).toNat + 1, j_10   (((-1) * x7.toInt + 2147483648).toNat + 1) 0 x7 (by omega) (by omega) (by omega) (by omega) (by omega) (by omega)⟩
set_option maxHeartbeats 4000000 in
theorem ok_X12_takes {p1 : Int32} {p2 : Int32} {v_sort : Nat → Int32} {v_value : Nat → Int32} {v_parts : Nat → Int32} {v_firstPart : Nat → Int32} {v_inCase : Nat → Bool} {v_partBegin : Nat → Int32} {v_partEnd : Nat → Int32} {v_least : Nat → Int32} {v_most : Nat → Int32} {v_holder : Nat → Int32} {v_end : Nat → Int32} {gb9 : Int} {gq9 : Int} {gn9 : Int} {gc9 : Int} {Q : Int32 → Prop} (a0 : 0 ≤ p2.toInt) (a1 : p2.toInt ≤ 65535) (u0 : zSl v_sort v_value v_least v_most v_holder v_parts v_end v_firstPart v_partBegin v_partEnd gb9 gq9 gn9 gc9) (u1 : gb9 ≤ p1.toInt) (u2 : p1.toInt < gb9 + gn9) (u3 : 0 ≤ gb9 ∧ gb9 ≤ 1100) (u4 : 0 ≤ gq9 ∧ gq9 ≤ 2100) (u5 : zg v_sort p1.toInt ≤ 2) (u6 : 0 ≤ zg v_sort p1.toInt) (hq : ∀ (r : Int32), 0 ≤ r.toInt → r.toInt ≤ 1 → Q r) : w_X12_takes p1 p2 v_sort v_value v_parts v_firstPart v_inCase v_partBegin v_partEnd Q := by
  have q_t : (bz true).toInt = 1 := rfl
  have q_f : (bz false).toInt = 0 := rfl
  have q_0 : (0 : Int32).toInt = 0 := rfl
  have q_1 : (1 : Int32).toInt = 1 := rfl
  unfold w_X12_takes
  have f1 : (gb9 : Int) ≤ p1.toInt := u1
  have f2 : p1.toInt + 1 ≤ (gb9 : Int) + (gn9 : Int) := u2
  have f3 : 0 ≤ (gb9 : Int) := u3.1
  have f4 : (gb9 : Int) ≤ 1100 := u3.2
  have f5 : 0 ≤ (gq9 : Int) := u4.1
  have f6 : (gq9 : Int) ≤ 2100 := u4.2
  have f7 : (gn9 : Int) ≤ 220 := (zS_n u0).2
  refine ⟨i_in (by omega) (by omega), ?_⟩
  intro x5 ex5
  have f8 : (0 ≤ x5.toInt ∧ x5.toInt ≤ 1) := i_bz ex5
  have j_17 : ∀ (s0_17 : Int32), 0 ≤ s0_17.toInt → ((s0_17.toInt = p2.toInt ∧ x5.toInt = 0) ∨ (0 ≤ s0_17.toInt ∧ s0_17.toInt ≤ 65535)) → w_X12_takes_17 p1 p2 v_sort v_value v_parts v_firstPart v_partBegin v_partEnd Q s0_17 := by
    intro s0_17 f9 f10
    unfold w_X12_takes_17
    refine ⟨i_in (by omega) (by omega), ?_⟩
    intro x23 ex23
    have f11 : 0 ≤ x23.toInt ∧ x23.toInt ≤ 11 := by have h9 := zS_sort (k := (-1) * (gb9 : Int) + p1.toInt) u0 ex23 (by omega) (by omega) (by omega); omega
    refine ⟨fun c24 => ?_, fun c24 => ?_⟩
    · have f12 : x23.toInt ≠ 0 := i_ne (a := x23.toInt) (b := 0) rfl rfl c24
      refine ⟨i_in (by omega) (by omega), ?_⟩
      intro x58 ex58
      have f13 : x58.toInt = x23.toInt := congrArg Int32.toInt (ex58.trans ex23.symm)
      have f14 : 0 ≤ x58.toInt ∧ x58.toInt ≤ 11 := by have h9 := zS_sort (k := (-1) * (gb9 : Int) + p1.toInt) u0 ex58 (by omega) (by omega) (by omega); omega
      refine ⟨fun c60 => ?_, fun c60 => ?_⟩
      · have f15 : x58.toInt ≠ 1 := i_ne (a := x58.toInt) (b := 1) rfl rfl c60
        refine ok_X12_isInParts (v_sort := v_sort) (v_value := v_value) (v_least := v_least) (v_most := v_most) (v_holder := v_holder) (v_end := v_end) (gb9 := gb9) (gq9 := gq9) (gn9 := gn9) (gc9 := gc9) (by exact u0) (by exact u1) (by exact u2) (by exact u3) (by exact u4) (by have h8 := zg_at ex23; have h7 := zg_at ex58; omega) (fun r78 f16 f17 f18 f19 f20 => ?_)
        have j_98 : ∀ (s0_98 : Int32), 0 ≤ s0_98.toInt → s0_98.toInt ≤ 1 → ((s0_98.toInt = 0 ∧ r78.toInt = 0 ∧ 0 ≤ p1.toInt + 1) ∨ (s0_98.toInt = 1)) → w_X12_takes_98 p1 v_value Q s0_98 := by
          intro s0_98 f21 f22 f23
          unfold w_X12_takes_98
          refine ⟨i_in (by omega) (by omega), ?_⟩
          intro x103 ex103
          have f24 : 0 ≤ x103.toInt ∧ x103.toInt ≤ 65535 := by have h9 := zS_value (k := (-1) * (gb9 : Int) + p1.toInt) u0 ex103 (by omega) (by omega) (by omega); omega
          have j_113 : ∀ (s0_113 : Int32), 0 ≤ s0_113.toInt → s0_113.toInt ≤ 1 → ((s0_113.toInt = 0) ∨ (s0_113.toInt = 1 ∧ x103.toInt = 1)) → w_X12_takes_113 Q s0_113 s0_98 := by
            intro s0_113 f25 f26 f27
            unfold w_X12_takes_113
            have j_121 : ∀ (s0_121 : Int32), 0 ≤ s0_121.toInt → s0_121.toInt ≤ 1 → ((s0_121.toInt = 0 ∧ s0_98.toInt = s0_113.toInt) ∨ (s0_121.toInt = 1)) → w_X12_takes_121 Q s0_121 := by
              intro s0_121 f28 f29 f30
              unfold w_X12_takes_121
              refine ⟨i_01 (by omega) (by omega), ?_⟩
              exact hq s0_121 (by omega) (by omega)
            refine ⟨fun c113 => ?_, fun c113 => ?_⟩
            · have f31 : s0_98.toInt = s0_113.toInt := i_eq (a := s0_98.toInt) (b := s0_113.toInt) rfl rfl c113
              exact j_121 0 (by omega) (by omega) (by omega)
            · have f32 : s0_98.toInt ≠ s0_113.toInt := i_ne (a := s0_98.toInt) (b := s0_113.toInt) rfl rfl c113
              exact j_121 1 (by omega) (by omega) (by omega)
          refine ⟨fun c105 => ?_, fun c105 => ?_⟩
          · have f33 : x103.toInt ≠ 1 := i_ne (a := x103.toInt) (b := 1) rfl rfl c105
            exact j_113 0 (by omega) (by omega) (by omega)
          · have f34 : x103.toInt = 1 := i_eq (a := x103.toInt) (b := 1) rfl rfl c105
            exact j_113 1 (by omega) (by omega) (by omega)
        have j_93 : w_X12_takes_93 p1 v_value Q := by
          unfold w_X12_takes_93
          exact j_98 1 (by omega) (by omega) (by omega)
        refine ⟨fun c81 => ?_, fun c81 => ?_⟩
        · have f35 : r78.toInt ≠ 0 := i_ne (a := r78.toInt) (b := 0) rfl rfl c81
          exact j_93  
        · have f36 : r78.toInt = 0 := i_eq (a := r78.toInt) (b := 0) rfl rfl c81
          refine ok_X12_isInParts (v_sort := v_sort) (v_value := v_value) (v_least := v_least) (v_most := v_most) (v_holder := v_holder) (v_end := v_end) (gb9 := gb9) (gq9 := gq9) (gn9 := gn9) (gc9 := gc9) (by exact u0) (by exact u1) (by exact u2) (by exact u3) (by exact u4) (by have h8 := zg_at ex23; have h7 := zg_at ex58; omega) (fun r87 f37 f38 f39 f40 f41 => ?_)
          refine ⟨fun c90 => ?_, fun c90 => ?_⟩
          · have f42 : r87.toInt = 0 := i_eq (a := r87.toInt) (b := 0) rfl rfl c90
            exact j_98 0 (by omega) (by omega) (by omega)
          · have f43 : r87.toInt ≠ 0 := i_ne (a := r87.toInt) (b := 0) rfl rfl c90
            exact j_93  
      · have f44 : x58.toInt = 1 := i_eq (a := x58.toInt) (b := 1) rfl rfl c60
        have j_74 : ∀ (s0_74 : Int32), 0 ≤ s0_74.toInt → s0_74.toInt ≤ 1 → ((s0_74.toInt = 0 ∧ p2.toInt = 10) ∨ (s0_74.toInt = 1)) → w_X12_takes_74 Q s0_74 := by
          intro s0_74 f45 f46 f47
          unfold w_X12_takes_74
          refine ⟨i_01 (by omega) (by omega), ?_⟩
          exact hq s0_74 (by omega) (by omega)
        refine ⟨fun c66 => ?_, fun c66 => ?_⟩
        · have f48 : p2.toInt = 10 := i_eq (a := p2.toInt) (b := 10) rfl rfl c66
          exact j_74 0 (by omega) (by omega) (by omega)
        · have f49 : p2.toInt ≠ 10 := i_ne (a := p2.toInt) (b := 10) rfl rfl c66
          exact j_74 1 (by omega) (by omega) (by omega)
    · have f50 : x23.toInt = 0 := i_eq (a := x23.toInt) (b := 0) rfl rfl c24
      refine ⟨i_in (by omega) (by omega), ?_⟩
      intro x32 ex32
      have f51 : 0 ≤ x32.toInt ∧ x32.toInt ≤ 65535 := by have h9 := zS_value (k := (-1) * (gb9 : Int) + p1.toInt) u0 ex32 (by omega) (by omega) (by omega); omega
      have j_52 : ∀ (s0_52 : Int32), 0 ≤ s0_52.toInt → s0_52.toInt ≤ 1 → ((s0_52.toInt = 0 ∧ 0 ≤ x32.toInt ∧ x32.toInt ≤ 65535) ∨ (s0_52.toInt = 1)) → w_X12_takes_52 Q s0_52 := by
        intro s0_52 f52 f53 f54
        unfold w_X12_takes_52
        refine ⟨i_01 (by omega) (by omega), ?_⟩
        exact hq s0_52 (by omega) (by omega)
      have j_47 : ((x32.toInt = p2.toInt) ∨ (0 ≤ x32.toInt ∧ x32.toInt ≤ 65535 ∧ x32.toInt = s0_17.toInt)) → w_X12_takes_47 Q := by
        intro f55
        unfold w_X12_takes_47
        exact j_52 1 (by omega) (by omega) (by omega)
      refine ⟨fun c34 => ?_, fun c34 => ?_⟩
      · have f56 : x32.toInt = p2.toInt := i_eq (a := x32.toInt) (b := p2.toInt) rfl rfl c34
        exact j_47  (by omega)
      · have f57 : x32.toInt ≠ p2.toInt := i_ne (a := x32.toInt) (b := p2.toInt) rfl rfl c34
        refine ⟨i_in (by omega) (by omega), ?_⟩
        intro x42 ex42
        have f58 : x42.toInt = x32.toInt := congrArg Int32.toInt (ex42.trans ex32.symm)
        have f59 : 0 ≤ x42.toInt ∧ x42.toInt ≤ 65535 := by have h9 := zS_value (k := (-1) * (gb9 : Int) + p1.toInt) u0 ex42 (by omega) (by omega) (by omega); omega
        refine ⟨fun c44 => ?_, fun c44 => ?_⟩
        · have f60 : x42.toInt ≠ s0_17.toInt := i_ne (a := x42.toInt) (b := s0_17.toInt) rfl rfl c44
          exact j_52 0 (by omega) (by omega) (by omega)
        · have f61 : x42.toInt = s0_17.toInt := i_eq (a := x42.toInt) (b := s0_17.toInt) rfl rfl c44
          exact j_47  (by omega)
  refine ⟨fun c6 => ?_, fun c6 => ?_⟩
  · have f62 : x5.toInt = 0 := i_eq (a := x5.toInt) (b := 0) rfl rfl c6
    exact j_17 p2 (by omega) (by omega)
  · have f63 : x5.toInt ≠ 0 := i_ne (a := x5.toInt) (b := 0) rfl rfl c6
    refine ok_X12_otherCase (by omega) (by omega) (fun r10 f64 f65 f66 f67 f68 f69 => ?_)
    exact j_17 r10 (by omega) (by omega)

set_option maxHeartbeats 4000000 in
theorem ok_X12_wrongSubject {p1 : Int32} {v_finding : Int32} {v_isSubject : Nat → Bool} {Q : Int32 → Int32 → Prop} (hq : ∀ (r : Int32) (ov_finding : Int32), ((r.toInt = 0 ∧ ov_finding.toInt = v_finding.toInt) ∨ (r.toInt + 3 = 0 ∧ ov_finding.toInt = 2) ∨ (r.toInt + 2 = 0 ∧ ov_finding.toInt = v_finding.toInt)) → ((r.toInt ≠ 0) ∨ (0 ≤ p1.toInt)) → ((r.toInt ≠ 0) ∨ (p1.toInt ≤ 3)) → (r.toInt = 0 → v_isSubject p1.toNatClampNeg = true) → (r.toInt = -3 → (0 ≤ p1.toInt ∧ p1.toInt ≤ 3 ∧ v_isSubject p1.toNatClampNeg = false)) → (r.toInt = -2 → (p1.toInt < 0 ∨ 3 < p1.toInt)) → Q r ov_finding) : w_X12_wrongSubject p1 v_finding v_isSubject Q := by
  have q_t : (bz true).toInt = 1 := rfl
  have q_f : (bz false).toInt = 0 := rfl
  have q_m3 : ((-3) : Int32).toInt = (-3) := rfl
  have q_m2 : ((-2) : Int32).toInt = (-2) := rfl
  have q_0 : (0 : Int32).toInt = 0 := rfl
  have q_2 : (2 : Int32).toInt = 2 := rfl
  have q_3 : (3 : Int32).toInt = 3 := rfl
  unfold w_X12_wrongSubject
  refine ok_X12_in  (fun r3 f1 f2 f3 f4 f5 f6 => ?_)
  refine ⟨fun c6 => ?_, fun c6 => ?_⟩
  · have f7 : r3.toInt ≠ 0 := i_ne (a := r3.toInt) (b := 0) rfl rfl c6
    refine ⟨i_in (by omega) (by omega), ?_⟩
    intro x17 ex17
    have f8 : (0 ≤ x17.toInt ∧ x17.toInt ≤ 1) := i_bz ex17
    refine ⟨fun c18 => ?_, fun c18 => ?_⟩
    · have f9 : x17.toInt ≠ 0 := i_ne (a := x17.toInt) (b := 0) rfl rfl c18
      exact hq 0 v_finding (by omega) (by omega) (by omega) (by exact fun _ => zbz_t ex17 (by omega)) (by exact fun z => absurd z (by decide)) (by exact fun z => absurd z (by decide))
    · have f10 : x17.toInt = 0 := i_eq (a := x17.toInt) (b := 0) rfl rfl c18
      exact hq (-3) 2 (by omega) (by omega) (by omega) (by exact fun z => absurd z (by decide)) (by exact fun _ => ⟨by omega, by omega, zbz_f ex17 (by omega)⟩) (by exact fun z => absurd z (by decide))
  · have f11 : r3.toInt = 0 := i_eq (a := r3.toInt) (b := 0) rfl rfl c6
    exact hq (-2) v_finding (by omega) (by omega) (by omega) (by exact fun z => absurd z (by decide)) (by exact fun z => absurd z (by decide)) (by exact fun _ => by omega)
set_option maxHeartbeats 4000000 in
theorem ok_X12_kindBars {p1 : Int32} {p2 : Int32} {v_many : Nat → Int32} {v_sort : Nat → Int32} {v_value : Nat → Int32} {v_least : Nat → Int32} {v_most : Nat → Int32} {v_mayEmpty : Nat → Bool} {v_holder : Nat → Int32} {v_parts : Nat → Int32} {v_end : Nat → Int32} {v_firstPart : Nat → Int32} {v_partBegin : Nat → Int32} {v_partEnd : Nat → Int32} {v_captures : Nat → Int32} {Q : Int32 → Prop} (a0 : 0 ≤ p1.toInt) (a1 : p1.toInt ≤ 5) (u0 : zSl v_sort v_value v_least v_most v_holder v_parts v_end v_firstPart v_partBegin v_partEnd (220 * p1.toInt) (420 * p1.toInt) (zg v_many p1.toInt) (zg v_captures p1.toInt)) (hq : ∀ (r : Int32), ((r.toInt = 0) ∨ (r.toInt + 6 = 0)) → (r.toInt = 0 → 1 ≤ p2.toInt → zKb v_sort (220 * p1.toInt) (zg v_many p1.toInt)) → Q r) : w_X12_kindBars p1 p2 v_many v_sort v_value v_least v_most v_mayEmpty Q := by
  have q_t : (bz true).toInt = 1 := rfl
  have q_f : (bz false).toInt = 0 := rfl
  have q_m6 : ((-6) : Int32).toInt = (-6) := rfl
  have q_0 : (0 : Int32).toInt = 0 := rfl
  have q_1 : (1 : Int32).toInt = 1 := rfl
  unfold w_X12_kindBars
  have f1 : 1 ≤ (zg v_many p1.toInt : Int) := (zS_n u0).1
  have f2 : (zg v_many p1.toInt : Int) ≤ 220 := (zS_n u0).2
  have f3 : 0 ≤ (zg v_captures p1.toInt : Int) := (zS_c u0).1
  have f4 : (zg v_captures p1.toInt : Int) ≤ 9 := (zS_c u0).2
  intro x4 ex4
  have f5 : x4.toInt = 220 * p1.toInt := i_mul (a := 220) (b := p1.toInt) ex4 rfl rfl (by omega) (by omega)
  have j_12 : ∀ n_12 : Nat, ∀ (l4_12 : Int32) (l5_12 : Int32), 0 ≤ l4_12.toInt → l4_12.toInt ≤ 1 → l4_12.toInt ≤ l5_12.toInt → (l4_12.toInt = 0 → zKb v_sort (220 * p1.toInt) l5_12.toInt) → ((-1) * l5_12.toInt + 2147483648).toNat < n_12 → w_X12_kindBars_12 p1 p2 v_many v_sort v_value v_least v_most v_mayEmpty Q x4 n_12 l4_12 l5_12 := by
    intro n_12
    induction n_12 with
    | zero =>
      intro l4_12 l5_12 f6 f7 f8 u12_0 hm_12
      exfalso; omega
    | succ n_12 ih_12 =>
      intro l4_12 l5_12 f6 f7 f8 u12_0 hm_12
      unfold w_X12_kindBars_12
      unfold w_X12_kindBars_12B
      refine ⟨i_in (by omega) (by omega), ?_⟩
      intro x19 ex19
      have f9 : x19.toInt = (zg v_many p1.toInt : Int) := zg_at ex19
      have j_150 : ((x19.toInt ≤ l5_12.toInt) ∨ (l5_12.toInt + 1 ≤ x19.toInt ∧ p2.toInt ≤ 0)) → (l4_12.toInt = 0 → 1 ≤ p2.toInt → zKb v_sort (220 * p1.toInt) (zg v_many p1.toInt)) → w_X12_kindBars_150 Q l4_12 := by
        intro f10 u150_0
        unfold w_X12_kindBars_150
        have j_161 : ∀ (s0_161 : Int32), ((s0_161.toInt = 0) ∨ (s0_161.toInt + 6 = 0)) → ((s0_161.toInt = 0 ∧ l4_12.toInt = 0) ∨ (s0_161.toInt + 6 = 0)) → (s0_161.toInt = 0 → 1 ≤ p2.toInt → zKb v_sort (220 * p1.toInt) (zg v_many p1.toInt)) → w_X12_kindBars_161 Q s0_161 := by
          intro s0_161 f11 f12 u161_0
          unfold w_X12_kindBars_161
          exact hq s0_161 (by omega) (by assumption)
        refine ⟨fun c152 => ?_, fun c152 => ?_⟩
        · have f13 : l4_12.toInt = 0 := i_eq (a := l4_12.toInt) (b := 0) rfl rfl c152
          exact j_161 0 (by omega) (by omega) (by first | exact fun z => absurd z (by decide) | exact fun _ => u150_0 (by omega))
        · have f14 : l4_12.toInt ≠ 0 := i_ne (a := l4_12.toInt) (b := 0) rfl rfl c152
          exact j_161 (-6) (by omega) (by omega) (by first | exact fun z => absurd z (by decide) | exact fun _ => u150_0 (by omega))
      refine ⟨fun c20 => ?_, fun c20 => ?_⟩
      · have f15 : x19.toInt ≤ l5_12.toInt := i_le (a := x19.toInt) (b := l5_12.toInt) rfl rfl c20
        exact j_150  (by omega) (by first | exact fun _ z => absurd z (by omega) | exact fun z _ => zKb_m (u12_0 z) (by omega))
      · have f16 : l5_12.toInt < x19.toInt := i_nle (a := x19.toInt) (b := l5_12.toInt) rfl rfl c20
        refine ⟨fun c24 => ?_, fun c24 => ?_⟩
        · have f17 : p2.toInt ≤ 0 := i_le (a := p2.toInt) (b := 0) rfl rfl c24
          exact j_150  (by omega) (by first | exact fun _ z => absurd z (by omega) | exact fun z _ => zKb_m (u12_0 z) (by omega))
        · have f18 : 0 < p2.toInt := i_nle (a := p2.toInt) (b := 0) rfl rfl c24
          intro x30 ex30
          have f19 : x30.toInt = x4.toInt + l5_12.toInt := i_add (a := x4.toInt) (b := l5_12.toInt) ex30 rfl rfl (by omega) (by omega)
          refine ⟨i_in (by omega) (by omega), ?_⟩
          intro x39 ex39
          have f20 : 0 ≤ x39.toInt ∧ x39.toInt ≤ 11 := by have h9 := zS_sort (k := (-220) * p1.toInt + x30.toInt) u0 ex39 (by omega) (by omega) (by omega); omega
          have j_83 : ∀ (s0_83 : Int32), ((s0_83.toInt = 0 ∧ l4_12.toInt = 0) ∨ (s0_83.toInt = 1)) → (s0_83.toInt = 0 → (l4_12.toInt = 0 ∧ x39.toInt ≠ 4 ∧ x39.toInt ≠ 9 ∧ x39.toInt ≠ 10)) → w_X12_kindBars_83 v_value v_least v_most v_mayEmpty Q (w_X12_kindBars_12 p1 p2 v_many v_sort v_value v_least v_most v_mayEmpty Q x4 n_12) s0_83 l5_12 x30 x39 := by
            intro s0_83 f21 u83_0
            unfold w_X12_kindBars_83
            have j_142 : ∀ (s0_142 : Int32), ((s0_142.toInt = 0 ∧ s0_83.toInt = 0) ∨ (s0_142.toInt = 1)) → (s0_142.toInt = 0 → s0_83.toInt = 0) → w_X12_kindBars_142 Q (w_X12_kindBars_12 p1 p2 v_many v_sort v_value v_least v_most v_mayEmpty Q x4 n_12) s0_142 l5_12 := by
              intro s0_142 f22 u142_0
              unfold w_X12_kindBars_142
              intro x144 ex144
              have f23 : x144.toInt = l5_12.toInt + 1 := i_add (a := l5_12.toInt) (b := 1) ex144 rfl rfl (by omega) (by omega)
              exact ih_12 s0_142 x144 (by omega) (by omega) (by omega) (by first | exact zKb_0 | exact zKb_s u12_0 u83_0 u142_0 ex39 (by omega) (by omega)) (by have h8_0 := i_rng l5_12; have h8_1 := i_rng x144; omega)
            have j_137 : w_X12_kindBars_137 Q (w_X12_kindBars_12 p1 p2 v_many v_sort v_value v_least v_most v_mayEmpty Q x4 n_12) l5_12 := by
              unfold w_X12_kindBars_137
              exact j_142 1 (by omega) (by omega)
            refine ⟨fun c87 => ?_, fun c87 => ?_⟩
            · have f24 : s0_83.toInt ≠ 0 := i_ne (a := s0_83.toInt) (b := 0) rfl rfl c87
              exact j_137  
            · have f25 : s0_83.toInt = 0 := i_eq (a := s0_83.toInt) (b := 0) rfl rfl c87
              have j_141 : w_X12_kindBars_141 Q (w_X12_kindBars_12 p1 p2 v_many v_sort v_value v_least v_most v_mayEmpty Q x4 n_12) l5_12 := by
                unfold w_X12_kindBars_141
                exact j_142 0 (by omega) (by omega)
              refine ⟨fun c94 => ?_, fun c94 => ?_⟩
              · have f26 : x39.toInt ≠ 7 := i_ne (a := x39.toInt) (b := 7) rfl rfl c94
                exact j_141  
              · have f27 : x39.toInt = 7 := i_eq (a := x39.toInt) (b := 7) rfl rfl c94
                refine ⟨i_in (by omega) (by omega), ?_⟩
                intro x103 ex103
                have f28 : 0 ≤ x103.toInt ∧ x103.toInt ≤ 65535 := by have h9 := zS_value (k := (-220) * p1.toInt + x30.toInt) u0 ex103 (by omega) (by omega) (by omega); omega
                refine ⟨fun c105 => ?_, fun c105 => ?_⟩
                · have f29 : x103.toInt = 2 := i_eq (a := x103.toInt) (b := 2) rfl rfl c105
                  exact j_137  
                · have f30 : x103.toInt ≠ 2 := i_ne (a := x103.toInt) (b := 2) rfl rfl c105
                  refine ⟨i_in (by omega) (by omega), ?_⟩
                  intro x114 ex114
                  have f31 : 0 ≤ x114.toInt + 1 ∧ x114.toInt ≤ 20 := by have h9 := zS_most (k := (-220) * p1.toInt + x30.toInt) u0 ex114 (by omega) (by omega) (by omega); omega
                  refine ⟨i_in (by omega) (by omega), ?_⟩
                  intro x121 ex121
                  have f32 : 0 ≤ x121.toInt ∧ x121.toInt ≤ 20 := by have h9 := zS_least (k := (-220) * p1.toInt + x30.toInt) u0 ex121 (by omega) (by omega) (by omega); omega
                  refine ⟨fun c122 => ?_, fun c122 => ?_⟩
                  · have f33 : x114.toInt ≤ x121.toInt := i_le (a := x114.toInt) (b := x121.toInt) rfl rfl c122
                    exact j_141  
                  · have f34 : x121.toInt < x114.toInt := i_nle (a := x114.toInt) (b := x121.toInt) rfl rfl c122
                    have f35 : l5_12.toInt + 2 ≤ (zg v_many p1.toInt : Int) := by have h9 := zS_ch (k := l5_12.toInt) u0 ex39 (by omega) (by omega) (by omega) (by omega); omega
                    intro x132 ex132
                    have f36 : x132.toInt = x30.toInt + 1 := i_add (a := x30.toInt) (b := 1) ex132 rfl rfl (by omega) (by omega)
                    refine ⟨i_in (by omega) (by omega), ?_⟩
                    intro x133 ex133
                    have f37 : (0 ≤ x133.toInt ∧ x133.toInt ≤ 1) := i_bz ex133
                    refine ⟨fun c134 => ?_, fun c134 => ?_⟩
                    · have f38 : x133.toInt = 0 := i_eq (a := x133.toInt) (b := 0) rfl rfl c134
                      exact j_141  
                    · have f39 : x133.toInt ≠ 0 := i_ne (a := x133.toInt) (b := 0) rfl rfl c134
                      exact j_137  
          have j_78 : w_X12_kindBars_78 v_value v_least v_most v_mayEmpty Q (w_X12_kindBars_12 p1 p2 v_many v_sort v_value v_least v_most v_mayEmpty Q x4 n_12) l5_12 x30 x39 := by
            unfold w_X12_kindBars_78
            exact j_83 1 (by omega) (by omega)
          refine ⟨fun c44 => ?_, fun c44 => ?_⟩
          · have f40 : l4_12.toInt ≠ 0 := i_ne (a := l4_12.toInt) (b := 0) rfl rfl c44
            exact j_78  
          · have f41 : l4_12.toInt = 0 := i_eq (a := l4_12.toInt) (b := 0) rfl rfl c44
            refine ⟨fun c50 => ?_, fun c50 => ?_⟩
            · have f42 : x39.toInt = 4 := i_eq (a := x39.toInt) (b := 4) rfl rfl c50
              exact j_78  
            · have f43 : x39.toInt ≠ 4 := i_ne (a := x39.toInt) (b := 4) rfl rfl c50
              refine ⟨fun c57 => ?_, fun c57 => ?_⟩
              · have f44 : x39.toInt = 9 := i_eq (a := x39.toInt) (b := 9) rfl rfl c57
                exact j_78  
              · have f45 : x39.toInt ≠ 9 := i_ne (a := x39.toInt) (b := 9) rfl rfl c57
                refine ⟨fun c64 => ?_, fun c64 => ?_⟩
                · have f46 : x39.toInt = 10 := i_eq (a := x39.toInt) (b := 10) rfl rfl c64
                  exact j_78  
                · have f47 : x39.toInt ≠ 10 := i_ne (a := x39.toInt) (b := 10) rfl rfl c64
                  have j_82 : w_X12_kindBars_82 v_value v_least v_most v_mayEmpty Q (w_X12_kindBars_12 p1 p2 v_many v_sort v_value v_least v_most v_mayEmpty Q x4 n_12) l5_12 x30 x39 := by
                    unfold w_X12_kindBars_82
                    exact j_83 0 (by omega) (by omega)
                  refine ⟨fun c70 => ?_, fun c70 => ?_⟩
                  · have f48 : x39.toInt ≠ 3 := i_ne (a := x39.toInt) (b := 3) rfl rfl c70
                    exact j_82  
                  · have f49 : x39.toInt = 3 := i_eq (a := x39.toInt) (b := 3) rfl rfl c70
                    refine ⟨fun c75 => ?_, fun c75 => ?_⟩
                    · have f50 : p2.toInt ≠ 2 := i_ne (a := p2.toInt) (b := 2) rfl rfl c75
                      exact j_82  
                    · have f51 : p2.toInt = 2 := i_eq (a := p2.toInt) (b := 2) rfl rfl c75
                      exact j_78  
  exact ⟨(2147483648 : Int).toNat + 1, j_12   ((2147483648 : Int).toNat + 1) 0 0 (by omega) (by omega) (by omega) (by first | exact zKb_0 | exact zKb_s u12_0 u83_0 u142_0 ex39 (by omega) (by omega)) (by omega)⟩
set_option maxHeartbeats 4000000 in
theorem ok_X12_sizeBars {p1 : Int32} {p2 : Int32} {v_size : Nat → Int32} {v_positions : Nat → Int32} {Q : Int32 → Prop} (a0 : 0 ≤ p1.toInt) (a1 : p1.toInt ≤ 5) (hq : ∀ (r : Int32), ((r.toInt = 0) ∨ (r.toInt + 7 = 0)) → ((r.toInt + 7 = 0) ∨ (r.toInt = 0)) → (r.toInt = 0 → ((1 ≤ p2.toInt → zg v_size (220 * p1.toInt) ≤ 200) ∧ (p2.toInt = 2 → zg v_positions (220 * p1.toInt) ≤ 60))) → Q r) : w_X12_sizeBars p1 p2 v_size v_positions Q := by
  have q_t : (bz true).toInt = 1 := rfl
  have q_f : (bz false).toInt = 0 := rfl
  have q_m7 : ((-7) : Int32).toInt = (-7) := rfl
  have q_0 : (0 : Int32).toInt = 0 := rfl
  unfold w_X12_sizeBars
  intro x4 ex4
  have f1 : x4.toInt = 220 * p1.toInt := i_mul (a := 220) (b := p1.toInt) ex4 rfl rfl (by omega) (by omega)
  have j_44 : ∀ (s0_44 : Int32), ((s0_44.toInt = 0) ∨ (s0_44.toInt + 7 = 0)) → ((s0_44.toInt + 7 = 0) ∨ (s0_44.toInt = 0)) → (s0_44.toInt = 0 → ((1 ≤ p2.toInt → zg v_size (220 * p1.toInt) ≤ 200) ∧ (p2.toInt = 2 → zg v_positions (220 * p1.toInt) ≤ 60))) → w_X12_sizeBars_44 Q s0_44 := by
    intro s0_44 f2 f3 u44_0
    unfold w_X12_sizeBars_44
    exact hq s0_44 (by omega) (by omega) (by assumption)
  have j_38 : ((1 ≤ p2.toInt) ∨ (p2.toInt = 2)) → w_X12_sizeBars_38 Q := by
    intro f4
    unfold w_X12_sizeBars_38
    exact j_44 (-7) (by omega) (by omega) (by first | exact fun z => absurd z (by decide) | exact fun _ => u43_0)
  have j_22 : ((p2.toInt ≤ 0) ∨ (1 ≤ p2.toInt)) → (1 ≤ p2.toInt → zg v_size (220 * p1.toInt) ≤ 200) → w_X12_sizeBars_22 p2 v_positions Q x4 := by
    intro f5 u22_0
    unfold w_X12_sizeBars_22
    have j_43 : (((1 ≤ p2.toInt → zg v_size (220 * p1.toInt) ≤ 200) ∧ (p2.toInt = 2 → zg v_positions (220 * p1.toInt) ≤ 60))) → w_X12_sizeBars_43 Q := by
      intro u43_0
      unfold w_X12_sizeBars_43
      exact j_44 0 (by omega) (by omega) (by first | exact fun z => absurd z (by decide) | exact fun _ => u43_0)
    refine ⟨fun c24 => ?_, fun c24 => ?_⟩
    · have f6 : p2.toInt ≠ 2 := i_ne (a := p2.toInt) (b := 2) rfl rfl c24
      exact j_43  (by first | exact ⟨u22_0, fun z => absurd z (by omega)⟩ | exact ⟨u22_0, fun _ => by rw [← zg_at2 ex32 (by omega)]; omega⟩)
    · have f7 : p2.toInt = 2 := i_eq (a := p2.toInt) (b := 2) rfl rfl c24
      refine ⟨i_in (by omega) (by omega), ?_⟩
      intro x32 ex32
      refine ⟨fun c35 => ?_, fun c35 => ?_⟩
      · have f8 : x32.toInt ≤ 60 := i_le (a := x32.toInt) (b := 60) rfl rfl c35
        exact j_43  (by first | exact ⟨u22_0, fun z => absurd z (by omega)⟩ | exact ⟨u22_0, fun _ => by rw [← zg_at2 ex32 (by omega)]; omega⟩)
      · have f9 : 60 < x32.toInt := i_nle (a := x32.toInt) (b := 60) rfl rfl c35
        exact j_38  (by omega)
  refine ⟨fun c7 => ?_, fun c7 => ?_⟩
  · have f10 : p2.toInt ≤ 0 := i_le (a := p2.toInt) (b := 0) rfl rfl c7
    exact j_22  (by omega) (by first | exact fun z => absurd z (by omega) | exact fun _ => by rw [← zg_at2 ex15 (by omega)]; omega)
  · have f11 : 0 < p2.toInt := i_nle (a := p2.toInt) (b := 0) rfl rfl c7
    refine ⟨i_in (by omega) (by omega), ?_⟩
    intro x15 ex15
    refine ⟨fun c19 => ?_, fun c19 => ?_⟩
    · have f12 : 200 < x15.toInt := i_lt (a := 200) (b := x15.toInt) rfl rfl c19
      exact j_38  (by omega)
    · have f13 : x15.toInt ≤ 200 := i_nlt (a := 200) (b := x15.toInt) rfl rfl c19
      exact j_22  (by omega) (by first | exact fun z => absurd z (by omega) | exact fun _ => by rw [← zg_at2 ex15 (by omega)]; omega)
set_option maxHeartbeats 4000000 in
theorem ok_X12_bars {p1 : Int32} {p2 : Int32} {v_many : Nat → Int32} {v_sort : Nat → Int32} {v_value : Nat → Int32} {v_least : Nat → Int32} {v_most : Nat → Int32} {v_size : Nat → Int32} {v_positions : Nat → Int32} {v_mayEmpty : Nat → Bool} {v_holder : Nat → Int32} {v_parts : Nat → Int32} {v_end : Nat → Int32} {v_firstPart : Nat → Int32} {v_partBegin : Nat → Int32} {v_partEnd : Nat → Int32} {v_captures : Nat → Int32} {Q : Int32 → Prop} (a0 : 0 ≤ p1.toInt) (a1 : p1.toInt ≤ 5) (u0 : zSl v_sort v_value v_least v_most v_holder v_parts v_end v_firstPart v_partBegin v_partEnd (220 * p1.toInt) (420 * p1.toInt) (zg v_many p1.toInt) (zg v_captures p1.toInt)) (hq : ∀ (r : Int32), ((r.toInt = 0) ∨ (r.toInt + 6 = 0) ∨ (r.toInt + 7 = 0)) → (r.toInt = 0 → 1 ≤ p2.toInt → zKb v_sort (220 * p1.toInt) (zg v_many p1.toInt)) → (r.toInt = 0 → ((1 ≤ p2.toInt → zg v_size (220 * p1.toInt) ≤ 200) ∧ (p2.toInt = 2 → zg v_positions (220 * p1.toInt) ≤ 60))) → Q r) : w_X12_bars p1 p2 v_many v_sort v_value v_least v_most v_size v_positions v_mayEmpty Q := by
  have q_t : (bz true).toInt = 1 := rfl
  have q_f : (bz false).toInt = 0 := rfl
  unfold w_X12_bars
  have f1 : 1 ≤ (zg v_many p1.toInt : Int) := (zS_n u0).1
  have f2 : (zg v_many p1.toInt : Int) ≤ 220 := (zS_n u0).2
  have f3 : 0 ≤ (zg v_captures p1.toInt : Int) := (zS_c u0).1
  have f4 : (zg v_captures p1.toInt : Int) ≤ 9 := (zS_c u0).2
  refine ok_X12_kindBars (v_holder := v_holder) (v_parts := v_parts) (v_end := v_end) (v_firstPart := v_firstPart) (v_partBegin := v_partBegin) (v_partEnd := v_partEnd) (v_captures := v_captures) (by omega) (by omega) (by first | assumption | omega) (fun r3 f5 u3_0 => ?_)
  have j_21 : ∀ (s0_21 : Int32), ((s0_21.toInt = 0) ∨ (s0_21.toInt + 6 = 0) ∨ (s0_21.toInt + 7 = 0)) → ((r3.toInt = 0) ∨ (s0_21.toInt = r3.toInt)) → (s0_21.toInt = 0 → 1 ≤ p2.toInt → zKb v_sort (220 * p1.toInt) (zg v_many p1.toInt)) → (s0_21.toInt = 0 → ((1 ≤ p2.toInt → zg v_size (220 * p1.toInt) ≤ 200) ∧ (p2.toInt = 2 → zg v_positions (220 * p1.toInt) ≤ 60))) → w_X12_bars_21 Q s0_21 := by
    intro s0_21 f6 f7 u21_0 u21_1
    unfold w_X12_bars_21
    exact hq s0_21 (by omega) (by assumption) (by assumption)
  refine ⟨fun c8 => ?_, fun c8 => ?_⟩
  · have f8 : r3.toInt = 0 := i_eq (a := r3.toInt) (b := 0) rfl rfl c8
    refine ok_X12_sizeBars (by omega) (by omega) (fun r18 f9 f10 u18_0 => ?_)
    exact j_21 r18 (by omega) (by omega) (by first | exact fun z => absurd z (by omega) | exact fun _ => u3_0 (by omega)) (by first | exact fun z => absurd z (by omega) | exact u18_0)
  · have f11 : r3.toInt ≠ 0 := i_ne (a := r3.toInt) (b := 0) rfl rfl c8
    exact j_21 r3 (by omega) (by omega) (by first | exact fun z => absurd z (by omega) | exact fun _ => u3_0 (by omega)) (by first | exact fun z => absurd z (by omega) | exact u18_0)

set_option maxHeartbeats 4000000 in
theorem ok_X12_markBounds {p1 : Int32} {v_many : Nat → Int32} {v_sort : Nat → Int32} {v_value : Nat → Int32} {v_parts : Nat → Int32} {v_firstPart : Nat → Int32} {v_inCase : Nat → Bool} {v_partBegin : Nat → Int32} {v_partEnd : Nat → Int32} {v_isBound : Nat → Bool} {v_least : Nat → Int32} {v_most : Nat → Int32} {v_holder : Nat → Int32} {v_end : Nat → Int32} {v_captures : Nat → Int32} {gN9 : Nat} {Q : (Nat → Bool) → Prop} (a0 : 0 ≤ p1.toInt) (a1 : p1.toInt ≤ 5) (u0 : zSl v_sort v_value v_least v_most v_holder v_parts v_end v_firstPart v_partBegin v_partEnd (220 * p1.toInt) (420 * p1.toInt) (zg v_many p1.toInt) (zg v_captures p1.toInt)) (u1 : (gN9 : Int) = 65409) (hq : ∀ (ov_isBound : Nat → Bool), (zth gN9 ov_isBound ≤ zth gN9 v_isBound + 66) → Q ov_isBound) : w_X12_markBounds p1 v_many v_sort v_value v_parts v_firstPart v_inCase v_partBegin v_partEnd v_isBound Q := by
  have q_t : (bz true).toInt = 1 := rfl
  have q_f : (bz false).toInt = 0 := rfl
  have q_0 : (0 : Int32).toInt = 0 := rfl
  have q_65 : (65 : Int32).toInt = 65 := rfl
  unfold w_X12_markBounds
  have f1 : 1 ≤ (zg v_many p1.toInt : Int) := (zS_n u0).1
  have f2 : (zg v_many p1.toInt : Int) ≤ 220 := (zS_n u0).2
  have f3 : 0 ≤ (zg v_captures p1.toInt : Int) := (zS_c u0).1
  have f4 : (zg v_captures p1.toInt : Int) ≤ 9 := (zS_c u0).2
  have hN := u1
  have j_2 : ∀ n_2 : Nat, ∀ (l2_2 : Int32) (v_isBound_2 : Nat → Bool), 0 ≤ l2_2.toInt → l2_2.toInt ≤ 220 → (zth gN9 v_isBound_2 ≤ zth gN9 v_isBound + zsm (zvn v_sort v_value (220 * p1.toInt)) l2_2.toInt.toNat + zsm (zvr v_sort v_parts v_firstPart v_partBegin v_partEnd (220 * p1.toInt) (420 * p1.toInt)) l2_2.toInt.toNat) → (l2_2.toInt ≤ zg v_many p1.toInt) → ((-1) * l2_2.toInt + 220).toNat < n_2 → w_X12_markBounds_2 p1 v_many v_sort v_value v_parts v_firstPart v_inCase v_partBegin v_partEnd Q n_2 l2_2 v_isBound_2 := by
    intro n_2
    induction n_2 with
    | zero =>
      intro l2_2 v_isBound_2 f5 f6 u2_0 u2_1 hm_2
      exfalso; omega
    | succ n_2 ih_2 =>
      intro l2_2 v_isBound_2 f5 f6 u2_0 u2_1 hm_2
      unfold w_X12_markBounds_2
      unfold w_X12_markBounds_2B
      refine ⟨i_in (by omega) (by omega), ?_⟩
      intro x8 ex8
      have f7 : x8.toInt = (zg v_many p1.toInt : Int) := zg_at ex8
      refine ⟨fun c9 => ?_, fun c9 => ?_⟩
      · have f8 : x8.toInt ≤ l2_2.toInt := i_le (a := x8.toInt) (b := l2_2.toInt) rfl rfl c9
        exact hq v_isBound_2 (by exact zmb_e u2_0 u0 (by omega))
      · have f9 : l2_2.toInt < x8.toInt := i_nle (a := x8.toInt) (b := l2_2.toInt) rfl rfl c9
        intro x16 ex16
        have f10 : x16.toInt = 220 * p1.toInt := i_mul (a := 220) (b := p1.toInt) ex16 rfl rfl (by omega) (by omega)
        intro x18 ex18
        have f11 : x18.toInt = x16.toInt + l2_2.toInt := i_add (a := x16.toInt) (b := l2_2.toInt) ex18 rfl rfl (by omega) (by omega)
        refine ⟨i_in (by omega) (by omega), ?_⟩
        intro x25 ex25
        have f12 : 0 ≤ x25.toInt ∧ x25.toInt ≤ 11 := by have h9 := zS_sort (k := (-220) * p1.toInt + x18.toInt) u0 ex25 (by omega) (by omega) (by omega); omega
        have j_91 : ∀ (v_isBound_91 : Nat → Bool), (zth gN9 v_isBound_91 ≤ zth gN9 v_isBound_2 + zvn v_sort v_value (220 * p1.toInt) l2_2.toInt) → w_X12_markBounds_91 v_parts v_firstPart v_inCase v_partBegin v_partEnd Q (w_X12_markBounds_2 p1 v_many v_sort v_value v_parts v_firstPart v_inCase v_partBegin v_partEnd Q n_2) l2_2 x18 x25 v_isBound_91 := by
          intro v_isBound_91 u91_0
          unfold w_X12_markBounds_91
          have j_113 : ∀ (v_isBound_113 : Nat → Bool), (zth gN9 v_isBound_113 ≤ zth gN9 v_isBound_2 + zvn v_sort v_value (220 * p1.toInt) l2_2.toInt) → w_X12_markBounds_113 v_parts v_firstPart v_inCase v_partBegin v_partEnd Q (w_X12_markBounds_2 p1 v_many v_sort v_value v_parts v_firstPart v_inCase v_partBegin v_partEnd Q n_2) l2_2 x18 x25 v_isBound_113 := by
            intro v_isBound_113 u113_0
            unfold w_X12_markBounds_113
            refine ⟨i_in (by omega) (by omega), ?_⟩
            intro x118 ex118
            have f13 : ((x25.toInt ≠ 2) ∨ (420 * p1.toInt ≤ x118.toInt ∧ x118.toInt ≤ 420 * p1.toInt + 420)) := zS_fpo (k := l2_2.toInt) u0 ex25 ex118 (by omega) (by omega) (by omega) (by omega)
            have j_121 : ∀ n_121 : Nat, ∀ (l5_121 : Int32) (v_isBound_121 : Nat → Bool), x118.toInt ≤ l5_121.toInt → (zth gN9 v_isBound_121 ≤ zth gN9 v_isBound_113 + zml v_partBegin v_partEnd (420 * p1.toInt) l5_121.toInt x118.toInt) → ((x25.toInt ≠ 2 ∧ l5_121.toInt = x118.toInt) ∨ (x25.toInt = 2 ∧ l5_121.toInt ≤ x118.toInt + zg v_parts x18.toInt)) → ((-1) * l5_121.toInt + 2147483648).toNat < n_121 → w_X12_markBounds_121 v_parts v_firstPart v_inCase v_partBegin v_partEnd Q (w_X12_markBounds_2 p1 v_many v_sort v_value v_parts v_firstPart v_inCase v_partBegin v_partEnd Q n_2) l2_2 x18 x25 n_121 l5_121 v_isBound_121 := by
              intro n_121
              induction n_121 with
              | zero =>
                intro l5_121 v_isBound_121 f14 u121_0 u121_1 hm_121
                exfalso; omega
              | succ n_121 ih_121 =>
                intro l5_121 v_isBound_121 f14 u121_0 u121_1 hm_121
                unfold w_X12_markBounds_121
                unfold w_X12_markBounds_121B
                have j_179 : (zth gN9 v_isBound_121 ≤ zth gN9 v_isBound_113 + zvr v_sort v_parts v_firstPart v_partBegin v_partEnd (220 * p1.toInt) (420 * p1.toInt) l2_2.toInt) → w_X12_markBounds_179 v_inCase Q (w_X12_markBounds_2 p1 v_many v_sort v_value v_parts v_firstPart v_inCase v_partBegin v_partEnd Q n_2) l2_2 x18 x25 v_isBound_121 := by
                  intro u179_0
                  unfold w_X12_markBounds_179
                  have j_183 : ∀ n_183 : Nat, ∀ (l5_183 : Int32) (v_isBound_183 : Nat → Bool), 64 ≤ l5_183.toInt → l5_183.toInt ≤ 124 → (zth gN9 v_isBound_183 ≤ zth gN9 v_isBound_121) → ((-1) * l5_183.toInt + 124).toNat < n_183 → w_X12_markBounds_183 v_inCase Q (w_X12_markBounds_2 p1 v_many v_sort v_value v_parts v_firstPart v_inCase v_partBegin v_partEnd Q n_2) l2_2 x18 x25 n_183 l5_183 v_isBound_183 := by
                    intro n_183
                    induction n_183 with
                    | zero =>
                      intro l5_183 v_isBound_183 f15 f16 u183_0 hm_183
                      exfalso; omega
                    | succ n_183 ih_183 =>
                      intro l5_183 v_isBound_183 f15 f16 u183_0 hm_183
                      unfold w_X12_markBounds_183
                      unfold w_X12_markBounds_183B
                      have j_219 : w_X12_markBounds_219 Q (w_X12_markBounds_2 p1 v_many v_sort v_value v_parts v_firstPart v_inCase v_partBegin v_partEnd Q n_2) l2_2 v_isBound_183 := by
                        unfold w_X12_markBounds_219
                        intro x219 ex219
                        have f17 : x219.toInt = l2_2.toInt + 1 := i_add (a := l2_2.toInt) (b := 1) ex219 rfl rfl (by omega) (by omega)
                        exact ih_2 x219 v_isBound_183 (by omega) (by omega) (by first | exact zmb_s u2_0 u113_0 u179_0 u183_0 (by omega) (by omega) | exact zmb_0) (by omega) (by have h8_0 := i_rng l2_2; have h8_1 := i_rng x219; omega)
                      refine ⟨fun c186 => ?_, fun c186 => ?_⟩
                      · have f18 : x25.toInt ≠ 2 := i_ne (a := x25.toInt) (b := 2) rfl rfl c186
                        exact j_219  
                      · have f19 : x25.toInt = 2 := i_eq (a := x25.toInt) (b := 2) rfl rfl c186
                        refine ⟨i_in (by omega) (by omega), ?_⟩
                        intro x194 ex194
                        have f20 : (0 ≤ x194.toInt ∧ x194.toInt ≤ 1) := i_bz ex194
                        refine ⟨fun c195 => ?_, fun c195 => ?_⟩
                        · have f21 : x194.toInt = 0 := i_eq (a := x194.toInt) (b := 0) rfl rfl c195
                          exact j_219  
                        · have f22 : x194.toInt ≠ 0 := i_ne (a := x194.toInt) (b := 0) rfl rfl c195
                          refine ⟨fun c202 => ?_, fun c202 => ?_⟩
                          · have f23 : 124 ≤ l5_183.toInt := i_le (a := 124) (b := l5_183.toInt) rfl rfl c202
                            exact j_219  
                          · have f24 : l5_183.toInt < 124 := i_nle (a := 124) (b := l5_183.toInt) rfl rfl c202
                            refine ⟨i_in (by omega) (by omega), ?_⟩
                            intro g212 eg212
                            intro x213 ex213
                            have f25 : x213.toInt = l5_183.toInt + 1 := i_add (a := l5_183.toInt) (b := 1) ex213 rfl rfl (by omega) (by omega)
                            exact ih_183 x213 g212 (by omega) (by omega) (by first | omega | (have h9 := zmk_low hN eg212 (by omega); omega)) (by have h8_0 := i_rng l5_183; have h8_1 := i_rng x213; omega)
                  exact ⟨(59 : Int).toNat + 1, j_183   ((59 : Int).toNat + 1) 65 v_isBound_121 (by omega) (by omega) (by first | omega | (have h9 := zmk_low hN eg212 (by omega); omega)) (by omega)⟩
                refine ⟨fun c124 => ?_, fun c124 => ?_⟩
                · have f26 : x25.toInt ≠ 2 := i_ne (a := x25.toInt) (b := 2) rfl rfl c124
                  exact j_179  (by first | exact zml_x u121_0 u121_1 ex25 (by omega) (by omega) | exact zml_y u121_0 ex25 (by omega) (by omega) ex118 rfl (by have h9 := zg_at2 (k := x18.toInt) ex140 (by omega); omega))
                · have f27 : x25.toInt = 2 := i_eq (a := x25.toInt) (b := 2) rfl rfl c124
                  refine ⟨i_in (by omega) (by omega), ?_⟩
                  intro x134 ex134
                  have f28 : x134.toInt = x118.toInt := congrArg Int32.toInt (ex134.trans ex118.symm)
                  refine ⟨i_in (by omega) (by omega), ?_⟩
                  intro x140 ex140
                  have f29 : (420 * p1.toInt ≤ x134.toInt ∧ 0 ≤ x140.toInt ∧ x134.toInt + x140.toInt ≤ 420 * p1.toInt + 420) := zS_fp (k := l2_2.toInt) u0 ex134 ex140 (by omega) (by omega) (by omega) (by omega) (by rw [← zg_at ex25]; omega)
                  intro x141 ex141
                  have f30 : x141.toInt = x134.toInt + x140.toInt := i_add (a := x134.toInt) (b := x140.toInt) ex141 rfl rfl (by omega) (by omega)
                  refine ⟨fun c142 => ?_, fun c142 => ?_⟩
                  · have f31 : x141.toInt ≤ l5_121.toInt := i_le (a := x141.toInt) (b := l5_121.toInt) rfl rfl c142
                    exact j_179  (by first | exact zml_x u121_0 u121_1 ex25 (by omega) (by omega) | exact zml_y u121_0 ex25 (by omega) (by omega) ex118 rfl (by have h9 := zg_at2 (k := x18.toInt) ex140 (by omega); omega))
                  · have f32 : l5_121.toInt < x141.toInt := i_nle (a := x141.toInt) (b := l5_121.toInt) rfl rfl c142
                    refine ⟨i_in (by omega) (by omega), ?_⟩
                    intro x155 ex155
                    have f33 : (0 ≤ x155.toInt ∧ x155.toInt ≤ 65535) := (zS_pb (v := x155) (w := l5_121) (k := l2_2.toInt) u0 ex134 ex140 (by rw [← zg_at2 ex25 (by omega)]; omega) (by omega) (by omega) (by omega) (by omega) (by omega) (by omega)).1 ex155
                    refine ⟨i_in (by omega) (by omega), ?_⟩
                    intro g157 eg157
                    refine ⟨i_in (by omega) (by omega), ?_⟩
                    intro x168 ex168
                    have f34 : (0 ≤ x168.toInt ∧ x168.toInt ≤ 65535) := (zS_pb (v := x168) (w := l5_121) (k := l2_2.toInt) u0 ex134 ex140 (by rw [← zg_at2 ex25 (by omega)]; omega) (by omega) (by omega) (by omega) (by omega) (by omega) (by omega)).2 ex168
                    intro x170 ex170
                    have f35 : x170.toInt = x168.toInt + 1 := i_add (a := x168.toInt) (b := 1) ex170 rfl rfl (by omega) (by omega)
                    refine ⟨i_in (by omega) (by omega), ?_⟩
                    intro g172 eg172
                    intro x173 ex173
                    have f36 : x173.toInt = l5_121.toInt + 1 := i_add (a := l5_121.toInt) (b := 1) ex173 rfl rfl (by omega) (by omega)
                    exact ih_121 x173 g172 (by omega) (by first | exact zml_n u121_0 ex155 ex168 (zmk_part hN eg157 eg172 (pb := x155.toInt) (pe := x168.toInt) (by omega) (by omega)) rfl (by omega) (by omega) | exact zml_z rfl) (by first | exact Or.inr ⟨by omega, by have h9 := zg_at2 (k := x18.toInt) ex140 (by omega); omega⟩ | exact zml_i (k := l2_2.toInt) u0 ex25 (by omega) (by omega) (by omega) rfl) (by have h8_0 := i_rng l5_121; have h8_1 := i_rng x173; omega)
            exact ⟨((-1) * x118.toInt + 2147483648).toNat + 1, j_121   (((-1) * x118.toInt + 2147483648).toNat + 1) x118 v_isBound_113 (by omega) (by first | exact zml_n u121_0 ex155 ex168 (zmk_part hN eg157 eg172 (pb := x155.toInt) (pe := x168.toInt) (by omega) (by omega)) rfl (by omega) (by omega) | exact zml_z rfl) (by first | exact Or.inr ⟨by omega, by have h9 := zg_at2 (k := x18.toInt) ex140 (by omega); omega⟩ | exact zml_i (k := l2_2.toInt) u0 ex25 (by omega) (by omega) (by omega) rfl) (by omega)⟩
          refine ⟨fun c94 => ?_, fun c94 => ?_⟩
          · have f37 : x25.toInt ≠ 1 := i_ne (a := x25.toInt) (b := 1) rfl rfl c94
            exact j_113 v_isBound_91 (by first | omega | (have h9 := zmk_low hN eg104 (by decide); have h8 := zmk_low hN eg112 (by decide); omega))
          · have f38 : x25.toInt = 1 := i_eq (a := x25.toInt) (b := 1) rfl rfl c94
            intro g104 eg104
            intro g112 eg112
            exact j_113 g112 (by first | omega | (have h9 := zmk_low hN eg104 (by decide); have h8 := zmk_low hN eg112 (by decide); omega))
        refine ⟨fun c30 => ?_, fun c30 => ?_⟩
        · have f39 : x25.toInt ≠ 0 := i_ne (a := x25.toInt) (b := 0) rfl rfl c30
          exact j_91 v_isBound_2 (by first | exact zmk_sg (o2 := r84) hN ex25 ex42 ex54 ex68 ex83 eg44 eg58 eg73 eg90 (by decide) (by omega) (by omega) (by omega) (by omega) (by omega) (by omega) (by omega) (by omega) (by omega) (fun _ => by omega) | (have h9 := zvn_nn v_sort v_value (220 * p1.toInt) l2_2.toInt; omega))
        · have f40 : x25.toInt = 0 := i_eq (a := x25.toInt) (b := 0) rfl rfl c30
          refine ⟨i_in (by omega) (by omega), ?_⟩
          intro x42 ex42
          have f41 : 0 ≤ x42.toInt ∧ x42.toInt ≤ 65535 := by have h9 := zS_value (k := (-220) * p1.toInt + x18.toInt) u0 ex42 (by omega) (by omega) (by omega); omega
          refine ⟨i_in (by omega) (by omega), ?_⟩
          intro g44 eg44
          refine ⟨i_in (by omega) (by omega), ?_⟩
          intro x54 ex54
          have f42 : x54.toInt = x42.toInt := congrArg Int32.toInt (ex54.trans ex42.symm)
          have f43 : 0 ≤ x54.toInt ∧ x54.toInt ≤ 65535 := by have h9 := zS_value (k := (-220) * p1.toInt + x18.toInt) u0 ex54 (by omega) (by omega) (by omega); omega
          intro x56 ex56
          have f44 : x56.toInt = x54.toInt + 1 := i_add (a := x54.toInt) (b := 1) ex56 rfl rfl (by omega) (by omega)
          refine ⟨i_in (by omega) (by omega), ?_⟩
          intro g58 eg58
          refine ⟨i_in (by omega) (by omega), ?_⟩
          intro x68 ex68
          have f45 : x68.toInt = x42.toInt := congrArg Int32.toInt (ex68.trans ex42.symm)
          have f46 : 0 ≤ x68.toInt ∧ x68.toInt ≤ 65535 := by have h9 := zS_value (k := (-220) * p1.toInt + x18.toInt) u0 ex68 (by omega) (by omega) (by omega); omega
          refine ok_X12_otherCase (by omega) (by omega) (fun r69 f47 f48 f49 f50 f51 f52 => ?_)
          refine ⟨i_in (by omega) (by omega), ?_⟩
          intro g73 eg73
          refine ⟨i_in (by omega) (by omega), ?_⟩
          intro x83 ex83
          have f53 : x83.toInt = x42.toInt := congrArg Int32.toInt (ex83.trans ex42.symm)
          have f54 : 0 ≤ x83.toInt ∧ x83.toInt ≤ 65535 := by have h9 := zS_value (k := (-220) * p1.toInt + x18.toInt) u0 ex83 (by omega) (by omega) (by omega); omega
          refine ok_X12_otherCase (by omega) (by omega) (fun r84 f55 f56 f57 f58 f59 f60 => ?_)
          intro x88 ex88
          have f61 : x88.toInt = r84.toInt + 1 := i_add (a := r84.toInt) (b := 1) ex88 rfl rfl (by omega) (by omega)
          refine ⟨i_in (by omega) (by omega), ?_⟩
          intro g90 eg90
          exact j_91 g90 (by first | exact zmk_sg (o2 := r84) hN ex25 ex42 ex54 ex68 ex83 eg44 eg58 eg73 eg90 (by decide) (by omega) (by omega) (by omega) (by omega) (by omega) (by omega) (by omega) (by omega) (by omega) (fun _ => by omega) | (have h9 := zvn_nn v_sort v_value (220 * p1.toInt) l2_2.toInt; omega))
  exact ⟨(220 : Int).toNat + 1, j_2   ((220 : Int).toNat + 1) 0 v_isBound (by omega) (by omega) (by first | exact zmb_s u2_0 u113_0 u179_0 u183_0 (by omega) (by omega) | exact zmb_0) (by omega) (by omega)⟩
set_option maxHeartbeats 4000000 in
theorem ok_X12_findBounds {v_isBound : Nat → Bool} {v_bounds : Nat → Int32} {gN9 : Nat} {Q : Int32 → (Nat → Bool) → (Nat → Int32) → Prop} (u0 : (gN9 : Int) = 65409) (u1 : zth gN9 v_isBound ≤ 132) (hq : ∀ (ov_boundMany : Int32) (ov_isBound : Nat → Bool) (ov_bounds : Nat → Int32), 0 ≤ ov_boundMany.toInt + 1 → 0 ≤ ov_boundMany.toInt → ov_boundMany.toInt ≤ 65535 → ov_boundMany.toInt ≤ 65536 → ov_boundMany.toInt ≤ 65537 → ov_boundMany.toInt ≤ 3000 → ov_boundMany.toInt ≤ 260 → 1 ≤ ov_boundMany.toInt → rp (fun k v => 0 ≤ v ∧ v ≤ 65535) ov_bounds 0 ov_boundMany.toInt → (zNo ov_isBound) → (zg ov_bounds 0 = 0) → Q ov_boundMany ov_isBound ov_bounds) : w_X12_findBounds v_isBound v_bounds Q := by
  have q_t : (bz true).toInt = 1 := rfl
  have q_f : (bz false).toInt = 0 := rfl
  have q_0 : (0 : Int32).toInt = 0 := rfl
  unfold w_X12_findBounds
  intro g11 eg11
  have h00 : g11 0 = true := by
    subst eg11; rfl
  have j_14 : ∀ n_14 : Nat, ∀ (l1_14 : Int32) (v_boundMany_14 : Int32) (v_isBound_14 : Nat → Bool) (v_bounds_14 : Nat → Int32), l1_14.toInt ≤ 65536 → v_boundMany_14.toInt ≤ l1_14.toInt → v_boundMany_14.toInt ≤ 3000 → 0 ≤ v_boundMany_14.toInt → rp (fun k v => 0 ≤ v ∧ v ≤ 65535) v_bounds_14 0 v_boundMany_14.toInt → (zFB g11 v_isBound_14 v_bounds_14 l1_14.toInt v_boundMany_14.toInt) → ((-1) * l1_14.toInt + 65536).toNat < n_14 → w_X12_findBounds_14 Q n_14 l1_14 v_boundMany_14 v_isBound_14 v_bounds_14 := by
    intro n_14
    induction n_14 with
    | zero =>
      intro l1_14 v_boundMany_14 v_isBound_14 v_bounds_14 f1 f2 f3 f4 h5 u14_0 hm_14
      exfalso; omega
    | succ n_14 ih_14 =>
      intro l1_14 v_boundMany_14 v_isBound_14 v_bounds_14 f1 f2 f3 f4 h5 u14_0 hm_14
      unfold w_X12_findBounds_14
      unfold w_X12_findBounds_14B
      refine ⟨fun c18 => ?_, fun c18 => ?_⟩
      · have f6 : 65536 ≤ l1_14.toInt := i_le (a := 65536) (b := l1_14.toInt) rfl rfl c18
        have f7 : v_boundMany_14.toInt ≤ 260 := by have h9 := zFB_le u14_0 u0 eg11 rfl u1 (by omega); omega
        have f8 : 1 ≤ v_boundMany_14.toInt := by have h9 := (u14_0.2.2.2 (by omega)).2; omega
        intro g71 eg71
        exact hq v_boundMany_14 g71 v_bounds_14 (by omega) (by omega) (by omega) (by omega) (by omega) (by omega) (by omega) (by omega) (rp_mono h5 (by omega) (by omega)) (by exact zFB_no u14_0 (by omega) eg71 rfl (by decide)) (by exact (u14_0.2.2.2 (by omega)).1)
      · have f9 : l1_14.toInt < 65536 := i_nle (a := 65536) (b := l1_14.toInt) rfl rfl c18
        refine ⟨i_in (by omega) (by omega), ?_⟩
        intro x26 ex26
        have f10 : (0 ≤ x26.toInt ∧ x26.toInt ≤ 1) := i_bz ex26
        have j_50 : ∀ (v_boundMany_50 : Int32) (v_bounds_50 : Nat → Int32), v_boundMany_14.toInt ≤ v_boundMany_50.toInt → v_boundMany_50.toInt ≤ v_boundMany_14.toInt + 1 → v_boundMany_50.toInt ≤ 3000 → ((v_boundMany_50.toInt = v_boundMany_14.toInt ∧ x26.toInt = 0) ∨ (v_boundMany_14.toInt ≤ 260 ∧ v_boundMany_50.toInt = v_boundMany_14.toInt + 1)) → rp (fun k v => 0 ≤ v ∧ v ≤ 65535) v_bounds_50 0 v_boundMany_14.toInt → rp (fun k v => 0 ≤ v ∧ v ≤ 65535) v_bounds_50 0 v_boundMany_50.toInt → (zFC g11 v_isBound_14 v_bounds_50 l1_14.toInt v_boundMany_50.toInt) → w_X12_findBounds_50 Q (w_X12_findBounds_14 Q n_14) l1_14 v_boundMany_50 v_isBound_14 v_bounds_50 := by
          intro v_boundMany_50 v_bounds_50 f11 f12 f13 f14 h15 h16 u50_0
          unfold w_X12_findBounds_50
          refine ⟨i_in (by omega) (by omega), ?_⟩
          intro g56 eg56
          intro x57 ex57
          have f17 : x57.toInt = l1_14.toInt + 1 := i_add (a := l1_14.toInt) (b := 1) ex57 rfl rfl (by omega) (by omega)
          exact ih_14 x57 v_boundMany_50 g56 v_bounds_50 (by omega) (by omega) (by omega) (by omega) (rp_mono h16 (by omega) (by omega)) (by first | exact zFB_s u50_0 eg56 (by decide) (by omega) (by omega) | exact zFB_0) (by have h8_0 := i_rng l1_14; have h8_1 := i_rng x57; omega)
        refine ⟨fun c27 => ?_, fun c27 => ?_⟩
        · have f18 : x26.toInt = 0 := i_eq (a := x26.toInt) (b := 0) rfl rfl c27
          exact j_50 v_boundMany_14 v_bounds_14 (by omega) (by omega) (by omega) (by omega) (rp_mono h5 (by omega) (by omega)) (rp_mono h5 (by omega) (by omega)) (by first | exact zFC_y u14_0 ex26 (by omega) eg39 (by omega) (by omega) (by omega) | exact zFC_n u14_0 h00 ex26 (by omega) (by omega))
        · have f19 : x26.toInt ≠ 0 := i_ne (a := x26.toInt) (b := 0) rfl rfl c27
          have f20 : v_boundMany_14.toInt ≤ 260 := by have h9 := zFB_le u14_0 u0 eg11 rfl u1 (by omega); omega
          refine ⟨i_in (by omega) (by omega), ?_⟩
          intro g39 eg39
          have h21 : rp (fun k v => 0 ≤ v ∧ v ≤ 65535) g39 0 (v_boundMany_14.toInt + 1) := rp_ext (P := (fun k v => 0 ≤ v ∧ v ≤ 65535)) (a := v_boundMany_14.toInt) (b := l1_14.toInt) h5 eg39 rfl rfl (by omega) (by omega) ⟨(by omega), (by omega)⟩
          intro x46 ex46
          have f22 : x46.toInt = v_boundMany_14.toInt + 1 := i_add (a := v_boundMany_14.toInt) (b := 1) ex46 rfl rfl (by omega) (by omega)
          exact j_50 x46 g39 (by omega) (by omega) (by omega) (by omega) (rp_mono h21 (by omega) (by omega)) (rp_mono h21 (by omega) (by omega)) (by first | exact zFC_y u14_0 ex26 (by omega) eg39 (by omega) (by omega) (by omega) | exact zFC_n u14_0 h00 ex26 (by omega) (by omega))
  exact ⟨(65536 : Int).toNat + 1, j_14   ((65536 : Int).toNat + 1) 0 0 g11 v_bounds (by omega) (by omega) (by omega) (by omega) (rp_nil (by omega)) (by first | exact zFB_s u50_0 eg56 (by decide) (by omega) (by omega) | exact zFB_0) (by omega)⟩

set_option maxHeartbeats 4000000 in
theorem ok_X12_wrongBoth {p1 : Int32} {p2 : Int32} {v_finding : Int32} {v_isThere : Nat → Bool} {v_isSubject : Nat → Bool} {Q : Int32 → Int32 → Prop} (hq : ∀ (r : Int32) (ov_finding : Int32), ((r.toInt = 0) ∨ (r.toInt + 2 = 0) ∨ (r.toInt + 3 = 0)) → ((r.toInt ≠ 0) ∨ (0 ≤ p1.toInt)) → ((r.toInt ≠ 0) ∨ (p1.toInt ≤ 5)) → ((r.toInt ≠ 0) ∨ (0 ≤ p2.toInt)) → ((r.toInt ≠ 0) ∨ (p2.toInt ≤ 3)) → (r.toInt = 0 → v_isThere p1.toNatClampNeg = true) → Q r ov_finding) : w_X12_wrongBoth p1 p2 v_finding v_isThere v_isSubject Q := by
  have q_t : (bz true).toInt = 1 := rfl
  have q_f : (bz false).toInt = 0 := rfl
  unfold w_X12_wrongBoth
  refine ok_X12_wrongSlot  (fun r2 r2_0 f1 f2 f3 u2_0 => ?_)
  have j_19 : ∀ (s0_19 : Int32) (v_finding_19 : Int32), ((s0_19.toInt = 0) ∨ (s0_19.toInt + 2 = 0) ∨ (s0_19.toInt + 3 = 0)) → ((s0_19.toInt ≠ 0) ∨ (0 ≤ p1.toInt)) → ((s0_19.toInt ≠ 0) ∨ (p1.toInt ≤ 5)) → ((s0_19.toInt ≠ 0) ∨ (0 ≤ p2.toInt)) → ((s0_19.toInt ≠ 0) ∨ (p2.toInt ≤ 3)) → ((r2.toInt = 0) ∨ (s0_19.toInt = r2.toInt ∧ v_finding_19.toInt = r2_0.toInt)) → (s0_19.toInt = 0 → v_isThere p1.toNatClampNeg = true) → w_X12_wrongBoth_19 Q s0_19 v_finding_19 := by
    intro s0_19 v_finding_19 f4 f5 f6 f7 f8 f9 u19_0
    unfold w_X12_wrongBoth_19
    exact hq s0_19 v_finding_19 (by omega) (by omega) (by omega) (by omega) (by omega) (by assumption)
  refine ⟨fun c7 => ?_, fun c7 => ?_⟩
  · have f10 : r2.toInt = 0 := i_eq (a := r2.toInt) (b := 0) rfl rfl c7
    refine ok_X12_wrongSubject  (fun r16 r16_0 f11 f12 f13 u16_0 u16_1 u16_2 => ?_)
    exact j_19 r16 r16_0 (by omega) (by omega) (by omega) (by omega) (by omega) (by omega) (by first | exact fun z => absurd z (by omega) | exact fun _ => u2_0 (by omega))
  · have f14 : r2.toInt ≠ 0 := i_ne (a := r2.toInt) (b := 0) rfl rfl c7
    exact j_19 r2 r2_0 (by omega) (by omega) (by omega) (by omega) (by omega) (by omega) (by first | exact fun z => absurd z (by omega) | exact fun _ => u2_0 (by omega))
