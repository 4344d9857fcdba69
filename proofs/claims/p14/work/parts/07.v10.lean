set_option maxHeartbeats 4000000 in
theorem ok_X12_makePart {p1 : Int32} {p2 : Int32} {p3 : Int32} {v_madeMany : Int32} {v_signs : Nat → Int32} {v_madeSigns : Nat → Int32} {Q : Int32 → (Nat → Int32) → Prop} (a0 : 0 ≤ p1.toInt) (a1 : p1.toInt ≤ 3) (a2 : 0 ≤ v_madeMany.toInt) (a3 : v_madeMany.toInt ≤ 1900000000) (a4 : ((p2.toInt + 1 ≤ 0) ∨ (p3.toInt ≤ 100))) (a5 : ((p3.toInt ≤ 100) ∨ (p2.toInt + 1 ≤ 0))) (a6 : 0 ≤ p2.toInt + 1) (b0 : rp (fun k v => 0 ≤ v ∧ v ≤ 65535) v_signs 0 400) (hq : ∀ (ov_madeMany : Int32) (ov_madeSigns : Nat → Int32), v_madeMany.toInt ≤ ov_madeMany.toInt + p2.toInt + 1 → v_madeMany.toInt ≤ ov_madeMany.toInt → 0 ≤ ov_madeMany.toInt + 1 → 0 ≤ ov_madeMany.toInt → ov_madeMany.toInt ≤ v_madeMany.toInt + 100 → ((p3.toInt + v_madeMany.toInt ≤ ov_madeMany.toInt + p2.toInt) ∨ (ov_madeMany.toInt + p2.toInt + 1 ≤ p3.toInt + v_madeMany.toInt ∧ p2.toInt + 1 ≤ 0)) → Q ov_madeMany ov_madeSigns) : w_X12_makePart p1 p2 p3 v_madeMany v_signs v_madeSigns Q := by
  have q_t : (bz true).toInt = 1 := rfl
  have q_f : (bz false).toInt = 0 := rfl
  unfold w_X12_makePart
  have j_3 : ∀ n_3 : Nat, ∀ (l4_3 : Int32) (v_madeMany_3 : Int32) (v_madeSigns_3 : Nat → Int32), p2.toInt + v_madeMany_3.toInt = l4_3.toInt + v_madeMany.toInt → v_madeMany.toInt ≤ v_madeMany_3.toInt → v_madeMany_3.toInt ≤ v_madeMany.toInt + 100 → ((-1) * l4_3.toInt + 100).toNat < n_3 → w_X12_makePart_3 p1 p2 p3 v_signs Q n_3 l4_3 v_madeMany_3 v_madeSigns_3 := by
    intro n_3
    induction n_3 with
    | zero =>
      intro l4_3 v_madeMany_3 v_madeSigns_3 f1 f2 f3 hm_3
      exfalso; omega
    | succ n_3 ih_3 =>
      intro l4_3 v_madeMany_3 v_madeSigns_3 f1 f2 f3 hm_3
      unfold w_X12_makePart_3
      unfold w_X12_makePart_3B
      have j_35 : ((p3.toInt ≤ l4_3.toInt) ∨ (l4_3.toInt + 1 ≤ p3.toInt ∧ p2.toInt + 1 ≤ 0)) → w_X12_makePart_35 Q v_madeMany_3 v_madeSigns_3 := by
        intro f4
        unfold w_X12_makePart_35
        exact hq v_madeMany_3 v_madeSigns_3 (by omega) (by omega) (by omega) (by omega) (by omega) (by omega)
      refine ⟨fun c6 => ?_, fun c6 => ?_⟩
      · have f5 : p3.toInt ≤ l4_3.toInt := i_le (a := p3.toInt) (b := l4_3.toInt) rfl rfl c6
        exact j_35  (by omega)
      · have f6 : l4_3.toInt < p3.toInt := i_nle (a := p3.toInt) (b := l4_3.toInt) rfl rfl c6
        refine ⟨fun c10 => ?_, fun c10 => ?_⟩
        · have f7 : p2.toInt < 0 := i_lt (a := p2.toInt) (b := 0) rfl rfl c10
          exact j_35  (by omega)
        · have f8 : 0 ≤ p2.toInt := i_nlt (a := p2.toInt) (b := 0) rfl rfl c10
          intro x21 ex21
          have f9 : x21.toInt = 100 * p1.toInt := i_mul (a := 100) (b := p1.toInt) ex21 rfl rfl (by omega) (by omega)
          intro x24 ex24
          have f10 : x24.toInt = x21.toInt + l4_3.toInt := i_add (a := x21.toInt) (b := l4_3.toInt) ex24 rfl rfl (by omega) (by omega)
          refine ⟨i_in (by omega) (by omega), ?_⟩
          intro x25 ex25
          have f11 : 0 ≤ x25.toInt ∧ x25.toInt ≤ 65535 := by have h9 := rp_get (P := (fun k v => 0 ≤ v ∧ v ≤ 65535)) (a := x24.toInt) b0 ex25 rfl (by omega) (by omega) (by omega); omega
          refine ok_X12_makeSign (by omega) (by omega) (fun r26_0 r26_1 f12 => ?_)
          intro x29 ex29
          have f13 : x29.toInt = l4_3.toInt + 1 := i_add (a := l4_3.toInt) (b := 1) ex29 rfl rfl (by omega) (by omega)
          exact ih_3 x29 r26_0 r26_1  (by omega) (by omega) (by omega) (by have h8_0 := i_rng l4_3; have h8_1 := i_rng x29; omega)
  exact ⟨((-1) * p2.toInt + 100).toNat + 1, j_3   (((-1) * p2.toInt + 100).toNat + 1) p2 v_madeMany v_madeSigns  (by omega) (by omega) (by omega) (by omega)⟩
set_option maxHeartbeats 4000000 in
theorem ok_X12_keepSpan {p1 : Int32} {p2 : Int32} {v_captures : Nat → Int32} {v_found : Nat → Int32} {v_span : Nat → Int32} {v_sort : Nat → Int32} {v_value : Nat → Int32} {v_least : Nat → Int32} {v_most : Nat → Int32} {v_holder : Nat → Int32} {v_parts : Nat → Int32} {v_end : Nat → Int32} {v_firstPart : Nat → Int32} {v_partBegin : Nat → Int32} {v_partEnd : Nat → Int32} {v_many : Nat → Int32} {Q : Bool → Int32 → (Nat → Int32) → Prop} (a0 : 0 ≤ p2.toInt) (a1 : p2.toInt ≤ 1) (a2 : 0 ≤ p1.toInt) (a3 : p1.toInt ≤ 5) (u0 : zSl v_sort v_value v_least v_most v_holder v_parts v_end v_firstPart v_partBegin v_partEnd (220 * p1.toInt) (420 * p1.toInt) (zg v_many p1.toInt) (zg v_captures p1.toInt)) (hq : ∀ (ov_hasSpan : Bool) (ov_spanCaptures : Int32) (ov_span : Nat → Int32), 0 ≤ ov_spanCaptures.toInt → ov_spanCaptures.toInt ≤ 9 → (bz ov_hasSpan).toInt = p2.toInt → Q ov_hasSpan ov_spanCaptures ov_span) : w_X12_keepSpan p1 p2 v_captures v_found v_span Q := by
  have q_t : (bz true).toInt = 1 := rfl
  have q_f : (bz false).toInt = 0 := rfl
  have q_0 : (0 : Int32).toInt = 0 := rfl
  unfold w_X12_keepSpan
  have f1 : 1 ≤ (zg v_many p1.toInt : Int) := (zS_n u0).1
  have f2 : (zg v_many p1.toInt : Int) ≤ 220 := (zS_n u0).2
  have f3 : 0 ≤ (zg v_captures p1.toInt : Int) := (zS_c u0).1
  have f4 : (zg v_captures p1.toInt : Int) ≤ 9 := (zS_c u0).2
  refine ⟨i_01 (by omega) (by omega), ?_⟩
  intro b2 eb2
  have f5 : (bz b2).toInt = p2.toInt := by rw [← eb2]
  refine ⟨i_in (by omega) (by omega), ?_⟩
  intro x11 ex11
  have f6 : x11.toInt = (zg v_captures p1.toInt : Int) := zg_at ex11
  have j_17 : ∀ n_17 : Nat, ∀ (l3_17 : Int32) (v_span_17 : Nat → Int32), 0 ≤ l3_17.toInt → l3_17.toInt ≤ 20 → ((-1) * l3_17.toInt + 20).toNat < n_17 → w_X12_keepSpan_17 v_found Q b2 x11 n_17 l3_17 v_span_17 := by
    intro n_17
    induction n_17 with
    | zero =>
      intro l3_17 v_span_17 f7 f8 hm_17
      exfalso; omega
    | succ n_17 ih_17 =>
      intro l3_17 v_span_17 f7 f8 hm_17
      unfold w_X12_keepSpan_17
      unfold w_X12_keepSpan_17B
      refine ⟨fun c20 => ?_, fun c20 => ?_⟩
      · have f9 : 20 ≤ l3_17.toInt := i_le (a := 20) (b := l3_17.toInt) rfl rfl c20
        exact hq b2 x11 v_span_17 (by omega) (by omega) (by omega)
      · have f10 : l3_17.toInt < 20 := i_nle (a := 20) (b := l3_17.toInt) rfl rfl c20
        refine ⟨i_in (by omega) (by omega), ?_⟩
        intro x33 ex33
        refine ⟨i_in (by omega) (by omega), ?_⟩
        intro g34 eg34
        intro x35 ex35
        have f11 : x35.toInt = l3_17.toInt + 1 := i_add (a := l3_17.toInt) (b := 1) ex35 rfl rfl (by omega) (by omega)
        exact ih_17 x35 g34  (by omega) (by omega) (by have h8_0 := i_rng l3_17; have h8_1 := i_rng x35; omega)
  exact ⟨(20 : Int).toNat + 1, j_17   ((20 : Int).toNat + 1) 0 v_span  (by omega) (by omega) (by omega)⟩
