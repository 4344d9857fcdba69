def w_X4_writeNode : Nat → Int32 → Int32 → Int32 → Bool → Bool → (Nat → Int32) → Nat → Int32 → Bool → Int32 → Int32 → Int32 → (Nat → Int32) → (Nat → Int32) → (Nat → Int32) → (Nat → Int32) → (Nat → Int32) → (Nat → Int32) → (Nat → Int32) → (Nat → Int32) → (Nat → Int32) → (Int32 → Bool → (Nat → Int32) → Int32 → Prop) → Prop
  | 0, _, _, _, _, _, _, _, _, _, _, _, _, _, _, _, _, _, _, _, _, _, _ => False
  | n9 + 1, p2, p3, v_row_count, v_row_over, v_row_there, v_row_items, nv_row_items, v_behindOpening, a1_there, a1_count, a1_captures, a1_ranges, a1_sort, a1_holder, a1_end, a1_parts, a1_value, a1_low, a1_high, a1_rangeBegin, a1_rangeEnd, Q => wB_X4_writeNode (w_X4_writeNode n9) p2 p3 v_row_count v_row_over v_row_there v_row_items nv_row_items v_behindOpening a1_there a1_count a1_captures a1_ranges a1_sort a1_holder a1_end a1_parts a1_value a1_low a1_high a1_rangeBegin a1_rangeEnd Q
set_option maxHeartbeats 4000000 in
set_option maxRecDepth 100000 in
theorem mt_X4_writeNode (n9 : Nat) (l : Launch) (dC : Nat → ClassId) (dI : Nat → Nat → Nat) : ∀ (h0 h1 h2 h3 h4 h5 h6 h7 h8 h9 h10 h11 h12 h13 h14 h15 h16 h17 h18 h19 : Nat) (k0 k1 k2 k3 k4 k5 k6 k7 k8 k9 : ClassId) (p2 : Int32) (p3 : Int32) (v_row_count : Int32) (v_row_over : Bool) (v_row_there : Bool) (v_row_items : Nat → Int32) (nv_row_items : Nat) (v_behindOpening : Int32) (a1_there : Bool) (a1_count : Int32) (a1_captures : Int32) (a1_ranges : Int32) (a1_sort : Nat → Int32) (a1_holder : Nat → Int32) (a1_end : Nat → Int32) (a1_parts : Nat → Int32) (a1_value : Nat → Int32) (a1_low : Nat → Int32) (a1_high : Nat → Int32) (a1_rangeBegin : Nat → Int32) (a1_rangeEnd : Nat → Int32) (Q : Int32 → Bool → (Nat → Int32) → Int32 → Prop) (w : w_X4_writeNode n9 p2 p3 v_row_count v_row_over v_row_there v_row_items nv_row_items v_behindOpening a1_there a1_count a1_captures a1_ranges a1_sort a1_holder a1_end a1_parts a1_value a1_low a1_high a1_rangeBegin a1_rangeEnd Q) (sz : Nat), Met l yX4_writeNode (WS yX4_writeNode cX4_writeNode 6 none) ({ frames := 5 * n9, cells := 0, slots := 0, locals := 111 * n9 } : Room) (va_Pc [.ref h0, .ref h1, .int p2, .int p3] (fun U => U.heap.size = sz ∧ va_P (dC, dI) vwCl [(h2, .inr (10, oX7 (.ref h3) v_row_count v_row_over v_row_there)), (h3, .inl (k0, nv_row_items, .inl v_row_items)), (h0, .inr (7, oX4 (.ref h2) v_behindOpening)), (h1, .inr (13, oX10 a1_there a1_count a1_captures a1_ranges (.ref h4) (.ref h5) (.ref h6) (.ref h13) (.ref h14) (.ref h7) (.ref h8) (.ref h9) (.ref h10) (.ref h15) (.ref h16) (.ref h17) (.ref h18) (.ref h19) (.ref h11) (.ref h12))), (h4, .inl (k1, 256, .inl a1_sort)), (h5, .inl (k2, 256, .inl a1_holder)), (h6, .inl (k3, 256, .inl a1_end)), (h7, .inl (k4, 256, .inl a1_parts)), (h8, .inl (k5, 256, .inl a1_value)), (h9, .inl (k6, 256, .inl a1_low)), (h10, .inl (k7, 256, .inl a1_high)), (h11, .inl (k8, 512, .inl a1_rangeBegin)), (h12, .inl (k9, 512, .inl a1_rangeEnd))] U.heap ∧ va_K (dC, dI) vwCl [(k0, .int), (k1, .int), (k2, .int), (k3, .int), (k4, .int), (k5, .int), (k6, .int), (k7, .int), (k8, .int), (k9, .int)] U ∧ va_D (fun _ => True) [(h2, .inr (10, oX7 (.ref h3) v_row_count v_row_over v_row_there)), (h3, .inl (k0, nv_row_items, .inl v_row_items)), (h0, .inr (7, oX4 (.ref h2) v_behindOpening)), (h1, .inr (13, oX10 a1_there a1_count a1_captures a1_ranges (.ref h4) (.ref h5) (.ref h6) (.ref h13) (.ref h14) (.ref h7) (.ref h8) (.ref h9) (.ref h10) (.ref h15) (.ref h16) (.ref h17) (.ref h18) (.ref h19) (.ref h11) (.ref h12))), (h4, .inl (k1, 256, .inl a1_sort)), (h5, .inl (k2, 256, .inl a1_holder)), (h6, .inl (k3, 256, .inl a1_end)), (h7, .inl (k4, 256, .inl a1_parts)), (h8, .inl (k5, 256, .inl a1_value)), (h9, .inl (k6, 256, .inl a1_low)), (h10, .inl (k7, 256, .inl a1_high)), (h11, .inl (k8, 512, .inl a1_rangeBegin)), (h12, .inl (k9, 512, .inl a1_rangeEnd))] ∧ EX U)) (va_Qv (fun (u : Nat) => u = 0) (fun (_ : Nat) (t : State) => ∃ (ov_row_count : Int32), ∃ (ov_row_over : Bool), ∃ (ov_row_items : Nat → Int32), ∃ (ov_behindOpening : Int32), (Q ov_row_count ov_row_over ov_row_items ov_behindOpening) ∧ va_P (dC, dI) vwCl [(h2, .inr (10, oX7 (.ref h3) ov_row_count ov_row_over v_row_there)), (h3, .inl (k0, nv_row_items, .inl ov_row_items)), (h0, .inr (7, oX4 (.ref h2) ov_behindOpening)), (h1, .inr (13, oX10 a1_there a1_count a1_captures a1_ranges (.ref h4) (.ref h5) (.ref h6) (.ref h13) (.ref h14) (.ref h7) (.ref h8) (.ref h9) (.ref h10) (.ref h15) (.ref h16) (.ref h17) (.ref h18) (.ref h19) (.ref h11) (.ref h12))), (h4, .inl (k1, 256, .inl a1_sort)), (h5, .inl (k2, 256, .inl a1_holder)), (h6, .inl (k3, 256, .inl a1_end)), (h7, .inl (k4, 256, .inl a1_parts)), (h8, .inl (k5, 256, .inl a1_value)), (h9, .inl (k6, 256, .inl a1_low)), (h10, .inl (k7, 256, .inl a1_high)), (h11, .inl (k8, 512, .inl a1_rangeBegin)), (h12, .inl (k9, 512, .inl a1_rangeEnd))] t.heap ∧ va_D (va_A [(h2, .inr (10, oX7 (.ref h3) v_row_count v_row_over v_row_there)), (h3, .inl (k0, nv_row_items, .inl v_row_items)), (h0, .inr (7, oX4 (.ref h2) v_behindOpening)), (h1, .inr (13, oX10 a1_there a1_count a1_captures a1_ranges (.ref h4) (.ref h5) (.ref h6) (.ref h13) (.ref h14) (.ref h7) (.ref h8) (.ref h9) (.ref h10) (.ref h15) (.ref h16) (.ref h17) (.ref h18) (.ref h19) (.ref h11) (.ref h12))), (h4, .inl (k1, 256, .inl a1_sort)), (h5, .inl (k2, 256, .inl a1_holder)), (h6, .inl (k3, 256, .inl a1_end)), (h7, .inl (k4, 256, .inl a1_parts)), (h8, .inl (k5, 256, .inl a1_value)), (h9, .inl (k6, 256, .inl a1_low)), (h10, .inl (k7, 256, .inl a1_high)), (h11, .inl (k8, 512, .inl a1_rangeBegin)), (h12, .inl (k9, 512, .inl a1_rangeEnd))] sz) [(h2, .inr (10, oX7 (.ref h3) ov_row_count ov_row_over v_row_there)), (h3, .inl (k0, nv_row_items, .inl ov_row_items)), (h0, .inr (7, oX4 (.ref h2) ov_behindOpening)), (h1, .inr (13, oX10 a1_there a1_count a1_captures a1_ranges (.ref h4) (.ref h5) (.ref h6) (.ref h13) (.ref h14) (.ref h7) (.ref h8) (.ref h9) (.ref h10) (.ref h15) (.ref h16) (.ref h17) (.ref h18) (.ref h19) (.ref h11) (.ref h12))), (h4, .inl (k1, 256, .inl a1_sort)), (h5, .inl (k2, 256, .inl a1_holder)), (h6, .inl (k3, 256, .inl a1_end)), (h7, .inl (k4, 256, .inl a1_parts)), (h8, .inl (k5, 256, .inl a1_value)), (h9, .inl (k6, 256, .inl a1_low)), (h10, .inl (k7, 256, .inl a1_high)), (h11, .inl (k8, 512, .inl a1_rangeBegin)), (h12, .inl (k9, 512, .inl a1_rangeEnd))]) (va_A [(h2, .inr (10, oX7 (.ref h3) v_row_count v_row_over v_row_there)), (h3, .inl (k0, nv_row_items, .inl v_row_items)), (h0, .inr (7, oX4 (.ref h2) v_behindOpening)), (h1, .inr (13, oX10 a1_there a1_count a1_captures a1_ranges (.ref h4) (.ref h5) (.ref h6) (.ref h13) (.ref h14) (.ref h7) (.ref h8) (.ref h9) (.ref h10) (.ref h15) (.ref h16) (.ref h17) (.ref h18) (.ref h19) (.ref h11) (.ref h12))), (h4, .inl (k1, 256, .inl a1_sort)), (h5, .inl (k2, 256, .inl a1_holder)), (h6, .inl (k3, 256, .inl a1_end)), (h7, .inl (k4, 256, .inl a1_parts)), (h8, .inl (k5, 256, .inl a1_value)), (h9, .inl (k6, 256, .inl a1_low)), (h10, .inl (k7, 256, .inl a1_high)), (h11, .inl (k8, 512, .inl a1_rangeBegin)), (h12, .inl (k9, 512, .inl a1_rangeEnd))] sz)) 0 0 (va_A [(h2, .inr (10, oX7 (.ref h3) v_row_count v_row_over v_row_there)), (h3, .inl (k0, nv_row_items, .inl v_row_items)), (h0, .inr (7, oX4 (.ref h2) v_behindOpening)), (h1, .inr (13, oX10 a1_there a1_count a1_captures a1_ranges (.ref h4) (.ref h5) (.ref h6) (.ref h13) (.ref h14) (.ref h7) (.ref h8) (.ref h9) (.ref h10) (.ref h15) (.ref h16) (.ref h17) (.ref h18) (.ref h19) (.ref h11) (.ref h12))), (h4, .inl (k1, 256, .inl a1_sort)), (h5, .inl (k2, 256, .inl a1_holder)), (h6, .inl (k3, 256, .inl a1_end)), (h7, .inl (k4, 256, .inl a1_parts)), (h8, .inl (k5, 256, .inl a1_value)), (h9, .inl (k6, 256, .inl a1_low)), (h10, .inl (k7, 256, .inl a1_high)), (h11, .inl (k8, 512, .inl a1_rangeBegin)), (h12, .inl (k9, 512, .inl a1_rangeEnd))] sz) := by
  induction n9 with
  | zero =>
    intro h0 h1 h2 h3 h4 h5 h6 h7 h8 h9 h10 h11 h12 h13 h14 h15 h16 h17 h18 h19 k0 k1 k2 k3 k4 k5 k6 k7 k8 k9 p2 p3 v_row_count v_row_over v_row_there v_row_items nv_row_items v_behindOpening a1_there a1_count a1_captures a1_ranges a1_sort a1_holder a1_end a1_parts a1_value a1_low a1_high a1_rangeBegin a1_rangeEnd Q w sz
    exact False.elim (by unfold w_X4_writeNode at w; exact w)
  | succ n9 ih =>
    intro h0 h1 h2 h3 h4 h5 h6 h7 h8 h9 h10 h11 h12 h13 h14 h15 h16 h17 h18 h19 k0 k1 k2 k3 k4 k5 k6 k7 k8 k9 p2 p3 v_row_count v_row_over v_row_there v_row_items nv_row_items v_behindOpening a1_there a1_count a1_captures a1_ranges a1_sort a1_holder a1_end a1_parts a1_value a1_low a1_high a1_rangeBegin a1_rangeEnd Q w sz
    unfold w_X4_writeNode at w
    exact mtB_X4_writeNode l dC dI (5 * n9) (111 * n9) (w_X4_writeNode n9) ih h0 h1 h2 h3 h4 h5 h6 h7 h8 h9 h10 h11 h12 h13 h14 h15 h16 h17 h18 h19 k0 k1 k2 k3 k4 k5 k6 k7 k8 k9 p2 p3 v_row_count v_row_over v_row_there v_row_items nv_row_items v_behindOpening a1_there a1_count a1_captures a1_ranges a1_sort a1_holder a1_end a1_parts a1_value a1_low a1_high a1_rangeBegin a1_rangeEnd Q w sz
def w_X4_write (a2_there : Bool) (a2_items : Nat → Int32) (na2_items : Nat) (a1_there : Bool) (a1_count : Int32) (a1_captures : Int32) (a1_ranges : Int32) (a1_sort : Nat → Int32) (a1_holder : Nat → Int32) (a1_end : Nat → Int32) (a1_parts : Nat → Int32) (a1_value : Nat → Int32) (a1_low : Nat → Int32) (a1_high : Nat → Int32) (a1_rangeBegin : Nat → Int32) (a1_rangeEnd : Nat → Int32) (Q : Int32 → Bool → (Nat → Int32) → Int32 → Prop) : Prop :=
  w_X7_empty  (fun r_2_0 r_2_1 => w_X4_writeNode 64 0 0 r_2_0 r_2_1 a2_there a2_items na2_items (-1) a1_there a1_count a1_captures a1_ranges a1_sort a1_holder a1_end a1_parts a1_value a1_low a1_high a1_rangeBegin a1_rangeEnd (fun r_4_0 r_4_1 r_4_2 r_4_3 => Q  r_4_0 r_4_1 r_4_2 r_4_3))
set_option maxHeartbeats 4000000 in
set_option maxRecDepth 100000 in
theorem mt_X4_write (l : Launch) (dC : Nat → ClassId) (dI : Nat → Nat → Nat) (h0 h1 h2 h3 h4 h5 h6 h7 h8 h9 h10 h11 h12 h13 h14 h15 h16 h17 h18 h19 : Nat) (k0 k1 k2 k3 k4 k5 k6 k7 k8 k9 : ClassId) (a2_count : Int32) (a2_over : Bool) (a2_there : Bool) (a2_items : Nat → Int32) (na2_items : Nat) (v_behindOpening : Int32) (a1_there : Bool) (a1_count : Int32) (a1_captures : Int32) (a1_ranges : Int32) (a1_sort : Nat → Int32) (a1_holder : Nat → Int32) (a1_end : Nat → Int32) (a1_parts : Nat → Int32) (a1_value : Nat → Int32) (a1_low : Nat → Int32) (a1_high : Nat → Int32) (a1_rangeBegin : Nat → Int32) (a1_rangeEnd : Nat → Int32) (Q : Int32 → Bool → (Nat → Int32) → Int32 → Prop) (w : w_X4_write a2_there a2_items na2_items a1_there a1_count a1_captures a1_ranges a1_sort a1_holder a1_end a1_parts a1_value a1_low a1_high a1_rangeBegin a1_rangeEnd Q) (sz : Nat) : Met l yX4_write (WS yX4_write cX4_write 3 none) ({ frames := 321, cells := 0, slots := 0, locals := 7129 } : Room) (va_Pc [.ref h0, .ref h1, .ref h2] (fun U => U.heap.size = sz ∧ va_P (dC, dI) vwCl [(h2, .inr (10, oX7 (.ref h3) a2_count a2_over a2_there)), (h3, .inl (k0, na2_items, .inl a2_items)), (h0, .inr (7, oX4 (.ref h2) v_behindOpening)), (h1, .inr (13, oX10 a1_there a1_count a1_captures a1_ranges (.ref h4) (.ref h5) (.ref h6) (.ref h13) (.ref h14) (.ref h7) (.ref h8) (.ref h9) (.ref h10) (.ref h15) (.ref h16) (.ref h17) (.ref h18) (.ref h19) (.ref h11) (.ref h12))), (h4, .inl (k1, 256, .inl a1_sort)), (h5, .inl (k2, 256, .inl a1_holder)), (h6, .inl (k3, 256, .inl a1_end)), (h7, .inl (k4, 256, .inl a1_parts)), (h8, .inl (k5, 256, .inl a1_value)), (h9, .inl (k6, 256, .inl a1_low)), (h10, .inl (k7, 256, .inl a1_high)), (h11, .inl (k8, 512, .inl a1_rangeBegin)), (h12, .inl (k9, 512, .inl a1_rangeEnd))] U.heap ∧ va_K (dC, dI) vwCl [(k0, .int), (k1, .int), (k2, .int), (k3, .int), (k4, .int), (k5, .int), (k6, .int), (k7, .int), (k8, .int), (k9, .int)] U ∧ va_D (fun _ => True) [(h2, .inr (10, oX7 (.ref h3) a2_count a2_over a2_there)), (h3, .inl (k0, na2_items, .inl a2_items)), (h0, .inr (7, oX4 (.ref h2) v_behindOpening)), (h1, .inr (13, oX10 a1_there a1_count a1_captures a1_ranges (.ref h4) (.ref h5) (.ref h6) (.ref h13) (.ref h14) (.ref h7) (.ref h8) (.ref h9) (.ref h10) (.ref h15) (.ref h16) (.ref h17) (.ref h18) (.ref h19) (.ref h11) (.ref h12))), (h4, .inl (k1, 256, .inl a1_sort)), (h5, .inl (k2, 256, .inl a1_holder)), (h6, .inl (k3, 256, .inl a1_end)), (h7, .inl (k4, 256, .inl a1_parts)), (h8, .inl (k5, 256, .inl a1_value)), (h9, .inl (k6, 256, .inl a1_low)), (h10, .inl (k7, 256, .inl a1_high)), (h11, .inl (k8, 512, .inl a1_rangeBegin)), (h12, .inl (k9, 512, .inl a1_rangeEnd))] ∧ EX U)) (va_Qv (fun (u : Nat) => u = 0) (fun (_ : Nat) (t : State) => ∃ (oa2_count : Int32), ∃ (oa2_over : Bool), ∃ (oa2_items : Nat → Int32), ∃ (ov_behindOpening : Int32), (Q oa2_count oa2_over oa2_items ov_behindOpening) ∧ va_P (dC, dI) vwCl [(h2, .inr (10, oX7 (.ref h3) oa2_count oa2_over a2_there)), (h3, .inl (k0, na2_items, .inl oa2_items)), (h0, .inr (7, oX4 (.ref h2) ov_behindOpening)), (h1, .inr (13, oX10 a1_there a1_count a1_captures a1_ranges (.ref h4) (.ref h5) (.ref h6) (.ref h13) (.ref h14) (.ref h7) (.ref h8) (.ref h9) (.ref h10) (.ref h15) (.ref h16) (.ref h17) (.ref h18) (.ref h19) (.ref h11) (.ref h12))), (h4, .inl (k1, 256, .inl a1_sort)), (h5, .inl (k2, 256, .inl a1_holder)), (h6, .inl (k3, 256, .inl a1_end)), (h7, .inl (k4, 256, .inl a1_parts)), (h8, .inl (k5, 256, .inl a1_value)), (h9, .inl (k6, 256, .inl a1_low)), (h10, .inl (k7, 256, .inl a1_high)), (h11, .inl (k8, 512, .inl a1_rangeBegin)), (h12, .inl (k9, 512, .inl a1_rangeEnd))] t.heap ∧ va_D (va_A [(h2, .inr (10, oX7 (.ref h3) a2_count a2_over a2_there)), (h3, .inl (k0, na2_items, .inl a2_items)), (h0, .inr (7, oX4 (.ref h2) v_behindOpening)), (h1, .inr (13, oX10 a1_there a1_count a1_captures a1_ranges (.ref h4) (.ref h5) (.ref h6) (.ref h13) (.ref h14) (.ref h7) (.ref h8) (.ref h9) (.ref h10) (.ref h15) (.ref h16) (.ref h17) (.ref h18) (.ref h19) (.ref h11) (.ref h12))), (h4, .inl (k1, 256, .inl a1_sort)), (h5, .inl (k2, 256, .inl a1_holder)), (h6, .inl (k3, 256, .inl a1_end)), (h7, .inl (k4, 256, .inl a1_parts)), (h8, .inl (k5, 256, .inl a1_value)), (h9, .inl (k6, 256, .inl a1_low)), (h10, .inl (k7, 256, .inl a1_high)), (h11, .inl (k8, 512, .inl a1_rangeBegin)), (h12, .inl (k9, 512, .inl a1_rangeEnd))] sz) [(h2, .inr (10, oX7 (.ref h3) oa2_count oa2_over a2_there)), (h3, .inl (k0, na2_items, .inl oa2_items)), (h0, .inr (7, oX4 (.ref h2) ov_behindOpening)), (h1, .inr (13, oX10 a1_there a1_count a1_captures a1_ranges (.ref h4) (.ref h5) (.ref h6) (.ref h13) (.ref h14) (.ref h7) (.ref h8) (.ref h9) (.ref h10) (.ref h15) (.ref h16) (.ref h17) (.ref h18) (.ref h19) (.ref h11) (.ref h12))), (h4, .inl (k1, 256, .inl a1_sort)), (h5, .inl (k2, 256, .inl a1_holder)), (h6, .inl (k3, 256, .inl a1_end)), (h7, .inl (k4, 256, .inl a1_parts)), (h8, .inl (k5, 256, .inl a1_value)), (h9, .inl (k6, 256, .inl a1_low)), (h10, .inl (k7, 256, .inl a1_high)), (h11, .inl (k8, 512, .inl a1_rangeBegin)), (h12, .inl (k9, 512, .inl a1_rangeEnd))]) (va_A [(h2, .inr (10, oX7 (.ref h3) a2_count a2_over a2_there)), (h3, .inl (k0, na2_items, .inl a2_items)), (h0, .inr (7, oX4 (.ref h2) v_behindOpening)), (h1, .inr (13, oX10 a1_there a1_count a1_captures a1_ranges (.ref h4) (.ref h5) (.ref h6) (.ref h13) (.ref h14) (.ref h7) (.ref h8) (.ref h9) (.ref h10) (.ref h15) (.ref h16) (.ref h17) (.ref h18) (.ref h19) (.ref h11) (.ref h12))), (h4, .inl (k1, 256, .inl a1_sort)), (h5, .inl (k2, 256, .inl a1_holder)), (h6, .inl (k3, 256, .inl a1_end)), (h7, .inl (k4, 256, .inl a1_parts)), (h8, .inl (k5, 256, .inl a1_value)), (h9, .inl (k6, 256, .inl a1_low)), (h10, .inl (k7, 256, .inl a1_high)), (h11, .inl (k8, 512, .inl a1_rangeBegin)), (h12, .inl (k9, 512, .inl a1_rangeEnd))] sz)) 0 0 (va_A [(h2, .inr (10, oX7 (.ref h3) a2_count a2_over a2_there)), (h3, .inl (k0, na2_items, .inl a2_items)), (h0, .inr (7, oX4 (.ref h2) v_behindOpening)), (h1, .inr (13, oX10 a1_there a1_count a1_captures a1_ranges (.ref h4) (.ref h5) (.ref h6) (.ref h13) (.ref h14) (.ref h7) (.ref h8) (.ref h9) (.ref h10) (.ref h15) (.ref h16) (.ref h17) (.ref h18) (.ref h19) (.ref h11) (.ref h12))), (h4, .inl (k1, 256, .inl a1_sort)), (h5, .inl (k2, 256, .inl a1_holder)), (h6, .inl (k3, 256, .inl a1_end)), (h7, .inl (k4, 256, .inl a1_parts)), (h8, .inl (k5, 256, .inl a1_value)), (h9, .inl (k6, 256, .inl a1_low)), (h10, .inl (k7, 256, .inl a1_high)), (h11, .inl (k8, 512, .inl a1_rangeBegin)), (h12, .inl (k9, 512, .inl a1_rangeEnd))] sz) := by
  refine Met.ofW (cc := cX4_write) (maxL := 3) (ret := none) (by decide) rfl ?_
  intro p e s m args below meth c s₁ B hml hv
  obtain ⟨rfl, hsz, hP, hK, hD0, hE⟩ := hv
  have hx := B.exec
  have hb := B.bytes
  have hr := B.returns
  have hts := atoms_spec (ws := WS yX4_write cX4_write 3 none) B.pre
  have ht : ∀ w ∈ TW, w.before _ s = true := fun w h => hts w (List.mem_cons_of_mem _ h)
  have hown : s.vm.findClass "PatternWorkshop$Printer" = some m.cls := findClass_of_methodNamed B.named
  have hlocks := B.notSynchronized
  subst hsz
  have hD := hD0.self (sz := s.heap.size)
  generalize hAe : va_A [(h2, .inr (10, oX7 (.ref h3) a2_count a2_over a2_there)), (h3, .inl (k0, na2_items, .inl a2_items)), (h0, .inr (7, oX4 (.ref h2) v_behindOpening)), (h1, .inr (13, oX10 a1_there a1_count a1_captures a1_ranges (.ref h4) (.ref h5) (.ref h6) (.ref h13) (.ref h14) (.ref h7) (.ref h8) (.ref h9) (.ref h10) (.ref h15) (.ref h16) (.ref h17) (.ref h18) (.ref h19) (.ref h11) (.ref h12))), (h4, .inl (k1, 256, .inl a1_sort)), (h5, .inl (k2, 256, .inl a1_holder)), (h6, .inl (k3, 256, .inl a1_end)), (h7, .inl (k4, 256, .inl a1_parts)), (h8, .inl (k5, 256, .inl a1_value)), (h9, .inl (k6, 256, .inl a1_low)), (h10, .inl (k7, 256, .inl a1_high)), (h11, .inl (k8, 512, .inl a1_rangeBegin)), (h12, .inl (k9, 512, .inl a1_rangeEnd))] s.heap.size = A at hD ⊢
  have hA : ∀ q : Nat, s.heap.size ≤ q → A q := fun q h => by rw [← hAe]; exact Or.inr h
  have hS : va_S A s.heap s.heap [] := va_S.rf
  have hP : va_P (dC, dI) vwCl [(h2, .inr (10, oX7 (.ref h3) a2_count a2_over a2_there)), (h3, .inl (k0, na2_items, .inl a2_items)), (h0, .inr (7, oX4 (.ref h2) v_behindOpening)), (h1, .inr (13, oX10 a1_there a1_count a1_captures a1_ranges (.ref h4) (.ref h5) (.ref h6) (.ref h13) (.ref h14) (.ref h7) (.ref h8) (.ref h9) (.ref h10) (.ref h15) (.ref h16) (.ref h17) (.ref h18) (.ref h19) (.ref h11) (.ref h12))), (h4, .inl (k1, 256, .inl a1_sort)), (h5, .inl (k2, 256, .inl a1_holder)), (h6, .inl (k3, 256, .inl a1_end)), (h7, .inl (k4, 256, .inl a1_parts)), (h8, .inl (k5, 256, .inl a1_value)), (h9, .inl (k6, 256, .inl a1_low)), (h10, .inl (k7, 256, .inl a1_high)), (h11, .inl (k8, 512, .inl a1_rangeBegin)), (h12, .inl (k9, 512, .inl a1_rangeEnd))] s.heap := hP
  have hl := lv_entry ([.ref h0, .ref h1, .ref h2]) (n := 3) (Nat.le_of_ble_eq_true rfl)
  rw [lg_entry_eq]
  generalize (lg_sl ([.ref h0, .ref h1, .ref h2]) ++ List.replicate (3 - (lg_sl ([.ref h0, .ref h1, .ref h2])).length) Slot.unset).toArray = ls at hl ⊢
  have hl : lv_has ls 3 [(0, .ref h0), (1, .ref h1), (2, .ref h2)] := hl
  clear hD0
  obtain ⟨QQ, hQQ⟩ : ∃ QQ, QQ = MQ below (va_Qv (fun (u : Nat) => u = 0) (fun (_ : Nat) (t : State) => ∃ (oa2_count : Int32), ∃ (oa2_over : Bool), ∃ (oa2_items : Nat → Int32), ∃ (ov_behindOpening : Int32), (Q oa2_count oa2_over oa2_items ov_behindOpening) ∧ va_P (dC, dI) vwCl [(h2, .inr (10, oX7 (.ref h3) oa2_count oa2_over a2_there)), (h3, .inl (k0, na2_items, .inl oa2_items)), (h0, .inr (7, oX4 (.ref h2) ov_behindOpening)), (h1, .inr (13, oX10 a1_there a1_count a1_captures a1_ranges (.ref h4) (.ref h5) (.ref h6) (.ref h13) (.ref h14) (.ref h7) (.ref h8) (.ref h9) (.ref h10) (.ref h15) (.ref h16) (.ref h17) (.ref h18) (.ref h19) (.ref h11) (.ref h12))), (h4, .inl (k1, 256, .inl a1_sort)), (h5, .inl (k2, 256, .inl a1_holder)), (h6, .inl (k3, 256, .inl a1_end)), (h7, .inl (k4, 256, .inl a1_parts)), (h8, .inl (k5, 256, .inl a1_value)), (h9, .inl (k6, 256, .inl a1_low)), (h10, .inl (k7, 256, .inl a1_high)), (h11, .inl (k8, 512, .inl a1_rangeBegin)), (h12, .inl (k9, 512, .inl a1_rangeEnd))] t.heap ∧ va_D A [(h2, .inr (10, oX7 (.ref h3) oa2_count oa2_over a2_there)), (h3, .inl (k0, na2_items, .inl oa2_items)), (h0, .inr (7, oX4 (.ref h2) ov_behindOpening)), (h1, .inr (13, oX10 a1_there a1_count a1_captures a1_ranges (.ref h4) (.ref h5) (.ref h6) (.ref h13) (.ref h14) (.ref h7) (.ref h8) (.ref h9) (.ref h10) (.ref h15) (.ref h16) (.ref h17) (.ref h18) (.ref h19) (.ref h11) (.ref h12))), (h4, .inl (k1, 256, .inl a1_sort)), (h5, .inl (k2, 256, .inl a1_holder)), (h6, .inl (k3, 256, .inl a1_end)), (h7, .inl (k4, 256, .inl a1_parts)), (h8, .inl (k5, 256, .inl a1_value)), (h9, .inl (k6, 256, .inl a1_low)), (h10, .inl (k7, 256, .inl a1_high)), (h11, .inl (k8, 512, .inl a1_rangeBegin)), (h12, .inl (k9, 512, .inl a1_rangeEnd))]) A) ([.ref h0, .ref h1, .ref h2]).toArray s 0 0 A := ⟨_, rfl⟩
  show W p l e ({ frames := 321, cells := 0, slots := 0, locals := 7129 } : Room) s m ([.ref h0, .ref h1, .ref h2]).toArray below meth c s.heap [] 0 0 (MQ below (va_Qv (fun (u : Nat) => u = 0) (fun (_ : Nat) (t : State) => ∃ (oa2_count : Int32), ∃ (oa2_over : Bool), ∃ (oa2_items : Nat → Int32), ∃ (ov_behindOpening : Int32), (Q oa2_count oa2_over oa2_items ov_behindOpening) ∧ va_P (dC, dI) vwCl [(h2, .inr (10, oX7 (.ref h3) oa2_count oa2_over a2_there)), (h3, .inl (k0, na2_items, .inl oa2_items)), (h0, .inr (7, oX4 (.ref h2) ov_behindOpening)), (h1, .inr (13, oX10 a1_there a1_count a1_captures a1_ranges (.ref h4) (.ref h5) (.ref h6) (.ref h13) (.ref h14) (.ref h7) (.ref h8) (.ref h9) (.ref h10) (.ref h15) (.ref h16) (.ref h17) (.ref h18) (.ref h19) (.ref h11) (.ref h12))), (h4, .inl (k1, 256, .inl a1_sort)), (h5, .inl (k2, 256, .inl a1_holder)), (h6, .inl (k3, 256, .inl a1_end)), (h7, .inl (k4, 256, .inl a1_parts)), (h8, .inl (k5, 256, .inl a1_value)), (h9, .inl (k6, 256, .inl a1_low)), (h10, .inl (k7, 256, .inl a1_high)), (h11, .inl (k8, 512, .inl a1_rangeBegin)), (h12, .inl (k9, 512, .inl a1_rangeEnd))] t.heap ∧ va_D A [(h2, .inr (10, oX7 (.ref h3) oa2_count oa2_over a2_there)), (h3, .inl (k0, na2_items, .inl oa2_items)), (h0, .inr (7, oX4 (.ref h2) ov_behindOpening)), (h1, .inr (13, oX10 a1_there a1_count a1_captures a1_ranges (.ref h4) (.ref h5) (.ref h6) (.ref h13) (.ref h14) (.ref h7) (.ref h8) (.ref h9) (.ref h10) (.ref h15) (.ref h16) (.ref h17) (.ref h18) (.ref h19) (.ref h11) (.ref h12))), (h4, .inl (k1, 256, .inl a1_sort)), (h5, .inl (k2, 256, .inl a1_holder)), (h6, .inl (k3, 256, .inl a1_end)), (h7, .inl (k4, 256, .inl a1_parts)), (h8, .inl (k5, 256, .inl a1_value)), (h9, .inl (k6, 256, .inl a1_low)), (h10, .inl (k7, 256, .inl a1_high)), (h11, .inl (k8, 512, .inl a1_rangeBegin)), (h12, .inl (k9, 512, .inl a1_rangeEnd))]) A) ([.ref h0, .ref h1, .ref h2]).toArray s 0 0 A) (F0 m 0 ls [])
  rw [← hQQ]
  unfold w_X4_write at w
  refine lv_aload_n hx hb dX4_write_0 rfl (lv_at hl 0 rfl) ?_
  refine lv_aload_n hx hb dX4_write_1 rfl (lv_at hl 2 rfl) ?_
  refine va_put (D := (dC, dI)) (ci := 7) (v := .ref h2) (ty := .object "PatternWorkshop$Row") (C := RX4) (T := TX4) (N := 2) hx hb ht inX4 tyX4 tyX4_ok nmX4 hown hK hP hD hS 2 rfl rfl 0 (by decide) (ht _ tw_503) (fun _ h9 => h9) rfl (by decide +kernel) rfl rfl (Nat.le_of_ble_eq_true rfl) dX4_write_2 (fun H_1 locs_1 hP_1 hD_1 hS_1 => ?_)
  have hP_1 : va_P (dC, dI) vwCl [(h2, .inr (10, oX7 (.ref h3) a2_count a2_over a2_there)), (h3, .inl (k0, na2_items, .inl a2_items)), (h0, .inr (7, oX4 (.ref h2) v_behindOpening)), (h1, .inr (13, oX10 a1_there a1_count a1_captures a1_ranges (.ref h4) (.ref h5) (.ref h6) (.ref h13) (.ref h14) (.ref h7) (.ref h8) (.ref h9) (.ref h10) (.ref h15) (.ref h16) (.ref h17) (.ref h18) (.ref h19) (.ref h11) (.ref h12))), (h4, .inl (k1, 256, .inl a1_sort)), (h5, .inl (k2, 256, .inl a1_holder)), (h6, .inl (k3, 256, .inl a1_end)), (h7, .inl (k4, 256, .inl a1_parts)), (h8, .inl (k5, 256, .inl a1_value)), (h9, .inl (k6, 256, .inl a1_low)), (h10, .inl (k7, 256, .inl a1_high)), (h11, .inl (k8, 512, .inl a1_rangeBegin)), (h12, .inl (k9, 512, .inl a1_rangeEnd))] H_1 := hP_1
  have hD_1 : va_D A [(h2, .inr (10, oX7 (.ref h3) a2_count a2_over a2_there)), (h3, .inl (k0, na2_items, .inl a2_items)), (h0, .inr (7, oX4 (.ref h2) v_behindOpening)), (h1, .inr (13, oX10 a1_there a1_count a1_captures a1_ranges (.ref h4) (.ref h5) (.ref h6) (.ref h13) (.ref h14) (.ref h7) (.ref h8) (.ref h9) (.ref h10) (.ref h15) (.ref h16) (.ref h17) (.ref h18) (.ref h19) (.ref h11) (.ref h12))), (h4, .inl (k1, 256, .inl a1_sort)), (h5, .inl (k2, 256, .inl a1_holder)), (h6, .inl (k3, 256, .inl a1_end)), (h7, .inl (k4, 256, .inl a1_parts)), (h8, .inl (k5, 256, .inl a1_value)), (h9, .inl (k6, 256, .inl a1_low)), (h10, .inl (k7, 256, .inl a1_high)), (h11, .inl (k8, 512, .inl a1_rangeBegin)), (h12, .inl (k9, 512, .inl a1_rangeEnd))] := hD_1
  refine lv_aload_n hx hb dX4_write_5 rfl (lv_at hl 0 rfl) ?_
  refine va_get (D := (dC, dI)) (ci := 7) (v := .ref h2) (C := RX4) (T := TX4) (N := 2) hx hb ht inX4 hown hK hP_1 2 rfl rfl 0 (by decide) (ht _ tw_503) (fun _ h9 => h9) rfl dX4_write_6 ?_
  have hPc_2 := hP_1.sub (ws' := [(h2, .inr (10, oX7 (.ref h3) a2_count a2_over a2_there))]) [0] rfl
  have hDc_2 := hD_1.sub (ws' := [(h2, .inr (10, oX7 (.ref h3) a2_count a2_over a2_there))]) [0] (by decide) rfl
  have hKc_2 := hK.sub (tys' := []) [] rfl
  have hFc_2 := va_free (wc := [(h2, .inr (10, oX7 (.ref h3) a2_count a2_over a2_there))]) hD_1 hS_1 hA [0] rfl
  refine va_callv (va_runV (As := []) (rest := []) ⟨hx, hb, hml, hown, ht⟩ (mt_X7_empty l dC dI h2 h3 a2_count a2_over a2_there _ w H_1.size) (cwV 0 ht (goodV tw_1196 tw_1125 tw_1126 tw_237 gw_X7_empty) rfl rfl rfl (by decide +kernel) ⟨Nat.le_of_ble_eq_true rfl, Nat.le_of_ble_eq_true rfl⟩) ⟨fun a U g mk q => by obtain ⟨q0, q1, qP, qK, qD⟩ := q; exact ⟨q0, q1, qP, va_K.moved (u := U) (U := U.calling g mk a) (Vm.Alike.refl U.vm) qK, qD⟩, va_recv hKc_2 hPc_2 (ci := 10) (q0 := 0) rfl rfl, fun U hU hW => ⟨rfl, by rw [hU], by rw [hU]; exact hPc_2, va_K.moved hW.alike hKc_2, hDc_2.weaken (fun _ _ _ _ => trivial)⟩⟩ rfl rfl hl.1 rfl (lv_room (Nat.le_of_ble_eq_true rfl)) dX4_write_9 ⟨Nat.le_of_ble_eq_true rfl, Nat.le_of_ble_eq_true rfl⟩) hS_1 (fun q _ h => hFc_2 q h) hFc_2 (fun u_2 t_2 H_2 locs_2 ht_2 hvm_2 hw_2 hB_2 hz_2 hk_2 hS_2 => ?_)
  subst hw_2
  obtain ⟨r_2_0, r_2_1, w_2, hP1_2, hD1_2⟩ := hB_2
  rw [ht_2] at hP1_2
  obtain ⟨hP_2, hD_2⟩ := va_join (wr := [(h3, .inl (k0, na2_items, .inl a2_items)), (h0, .inr (7, oX4 (.ref h2) v_behindOpening)), (h1, .inr (13, oX10 a1_there a1_count a1_captures a1_ranges (.ref h4) (.ref h5) (.ref h6) (.ref h13) (.ref h14) (.ref h7) (.ref h8) (.ref h9) (.ref h10) (.ref h15) (.ref h16) (.ref h17) (.ref h18) (.ref h19) (.ref h11) (.ref h12))), (h4, .inl (k1, 256, .inl a1_sort)), (h5, .inl (k2, 256, .inl a1_holder)), (h6, .inl (k3, 256, .inl a1_end)), (h7, .inl (k4, 256, .inl a1_parts)), (h8, .inl (k5, 256, .inl a1_value)), (h9, .inl (k6, 256, .inl a1_low)), (h10, .inl (k7, 256, .inl a1_high)), (h11, .inl (k8, 512, .inl a1_rangeBegin)), (h12, .inl (k9, 512, .inl a1_rangeEnd))]) (w1 := [(h2, .inr (10, oX7 (.ref h3) r_2_0 r_2_1 a2_there))]) hP_1 hD_1 [0] [1, 2, 3, 4, 5, 6, 7, 8, 9, 10, 11, 12] rfl rfl (by decide) (by decide) hk_2 hFc_2 hP1_2 hD1_2
  have hP_2 := hP_2.sub (ws' := [(h2, .inr (10, oX7 (.ref h3) r_2_0 r_2_1 a2_there)), (h3, .inl (k0, na2_items, .inl a2_items)), (h0, .inr (7, oX4 (.ref h2) v_behindOpening)), (h1, .inr (13, oX10 a1_there a1_count a1_captures a1_ranges (.ref h4) (.ref h5) (.ref h6) (.ref h13) (.ref h14) (.ref h7) (.ref h8) (.ref h9) (.ref h10) (.ref h15) (.ref h16) (.ref h17) (.ref h18) (.ref h19) (.ref h11) (.ref h12))), (h4, .inl (k1, 256, .inl a1_sort)), (h5, .inl (k2, 256, .inl a1_holder)), (h6, .inl (k3, 256, .inl a1_end)), (h7, .inl (k4, 256, .inl a1_parts)), (h8, .inl (k5, 256, .inl a1_value)), (h9, .inl (k6, 256, .inl a1_low)), (h10, .inl (k7, 256, .inl a1_high)), (h11, .inl (k8, 512, .inl a1_rangeBegin)), (h12, .inl (k9, 512, .inl a1_rangeEnd))]) [12, 0, 1, 2, 3, 4, 5, 6, 7, 8, 9, 10, 11] rfl
  have hD_2 := hD_2.sub (ws' := [(h2, .inr (10, oX7 (.ref h3) r_2_0 r_2_1 a2_there)), (h3, .inl (k0, na2_items, .inl a2_items)), (h0, .inr (7, oX4 (.ref h2) v_behindOpening)), (h1, .inr (13, oX10 a1_there a1_count a1_captures a1_ranges (.ref h4) (.ref h5) (.ref h6) (.ref h13) (.ref h14) (.ref h7) (.ref h8) (.ref h9) (.ref h10) (.ref h15) (.ref h16) (.ref h17) (.ref h18) (.ref h19) (.ref h11) (.ref h12))), (h4, .inl (k1, 256, .inl a1_sort)), (h5, .inl (k2, 256, .inl a1_holder)), (h6, .inl (k3, 256, .inl a1_end)), (h7, .inl (k4, 256, .inl a1_parts)), (h8, .inl (k5, 256, .inl a1_value)), (h9, .inl (k6, 256, .inl a1_low)), (h10, .inl (k7, 256, .inl a1_high)), (h11, .inl (k8, 512, .inl a1_rangeBegin)), (h12, .inl (k9, 512, .inl a1_rangeEnd))]) [12, 0, 1, 2, 3, 4, 5, 6, 7, 8, 9, 10, 11] (by decide) rfl
  clear hPc_2 hDc_2 hKc_2 hFc_2 hP1_2 hD1_2 hk_2 hz_2
  refine lv_aload_n hx hb dX4_write_12 rfl (lv_at hl 0 rfl) ?_
  refine lv_iconst (v := (-1)) hx hb dX4_write_13 (by decide) ?_
  refine va_put (D := (dC, dI)) (ci := 7) (v := .int (-1)) (ty := .int) (C := RX4) (T := TX4) (N := 2) hx hb ht inX4 tyX4 tyX4_ok nmX4 hown hK hP_2 hD_2 hS_2 2 rfl rfl 1 (by decide) (ht _ tw_504) (fun _ h9 => h9) rfl (by decide +kernel) rfl rfl (Nat.le_of_ble_eq_true rfl) dX4_write_14 (fun H_3 locs_3 hP_3 hD_3 hS_3 => ?_)
  have hP_3 : va_P (dC, dI) vwCl [(h2, .inr (10, oX7 (.ref h3) r_2_0 r_2_1 a2_there)), (h3, .inl (k0, na2_items, .inl a2_items)), (h0, .inr (7, oX4 (.ref h2) (-1))), (h1, .inr (13, oX10 a1_there a1_count a1_captures a1_ranges (.ref h4) (.ref h5) (.ref h6) (.ref h13) (.ref h14) (.ref h7) (.ref h8) (.ref h9) (.ref h10) (.ref h15) (.ref h16) (.ref h17) (.ref h18) (.ref h19) (.ref h11) (.ref h12))), (h4, .inl (k1, 256, .inl a1_sort)), (h5, .inl (k2, 256, .inl a1_holder)), (h6, .inl (k3, 256, .inl a1_end)), (h7, .inl (k4, 256, .inl a1_parts)), (h8, .inl (k5, 256, .inl a1_value)), (h9, .inl (k6, 256, .inl a1_low)), (h10, .inl (k7, 256, .inl a1_high)), (h11, .inl (k8, 512, .inl a1_rangeBegin)), (h12, .inl (k9, 512, .inl a1_rangeEnd))] H_3 := hP_3
  have hD_3 : va_D A [(h2, .inr (10, oX7 (.ref h3) r_2_0 r_2_1 a2_there)), (h3, .inl (k0, na2_items, .inl a2_items)), (h0, .inr (7, oX4 (.ref h2) (-1))), (h1, .inr (13, oX10 a1_there a1_count a1_captures a1_ranges (.ref h4) (.ref h5) (.ref h6) (.ref h13) (.ref h14) (.ref h7) (.ref h8) (.ref h9) (.ref h10) (.ref h15) (.ref h16) (.ref h17) (.ref h18) (.ref h19) (.ref h11) (.ref h12))), (h4, .inl (k1, 256, .inl a1_sort)), (h5, .inl (k2, 256, .inl a1_holder)), (h6, .inl (k3, 256, .inl a1_end)), (h7, .inl (k4, 256, .inl a1_parts)), (h8, .inl (k5, 256, .inl a1_value)), (h9, .inl (k6, 256, .inl a1_low)), (h10, .inl (k7, 256, .inl a1_high)), (h11, .inl (k8, 512, .inl a1_rangeBegin)), (h12, .inl (k9, 512, .inl a1_rangeEnd))] := hD_3
  refine lv_aload_n hx hb dX4_write_17 rfl (lv_at hl 0 rfl) ?_
  refine lv_aload_n hx hb dX4_write_18 rfl (lv_at hl 1 rfl) ?_
  refine lv_iconst (v := 0) hx hb dX4_write_19 (by decide) ?_
  refine lv_iconst (v := 0) hx hb dX4_write_20 (by decide) ?_
  have hPc_4 := hP_3.sub (ws' := [(h2, .inr (10, oX7 (.ref h3) r_2_0 r_2_1 a2_there)), (h3, .inl (k0, na2_items, .inl a2_items)), (h0, .inr (7, oX4 (.ref h2) (-1))), (h1, .inr (13, oX10 a1_there a1_count a1_captures a1_ranges (.ref h4) (.ref h5) (.ref h6) (.ref h13) (.ref h14) (.ref h7) (.ref h8) (.ref h9) (.ref h10) (.ref h15) (.ref h16) (.ref h17) (.ref h18) (.ref h19) (.ref h11) (.ref h12))), (h4, .inl (k1, 256, .inl a1_sort)), (h5, .inl (k2, 256, .inl a1_holder)), (h6, .inl (k3, 256, .inl a1_end)), (h7, .inl (k4, 256, .inl a1_parts)), (h8, .inl (k5, 256, .inl a1_value)), (h9, .inl (k6, 256, .inl a1_low)), (h10, .inl (k7, 256, .inl a1_high)), (h11, .inl (k8, 512, .inl a1_rangeBegin)), (h12, .inl (k9, 512, .inl a1_rangeEnd))]) [0, 1, 2, 3, 4, 5, 6, 7, 8, 9, 10, 11, 12] rfl
  have hDc_4 := hD_3.sub (ws' := [(h2, .inr (10, oX7 (.ref h3) r_2_0 r_2_1 a2_there)), (h3, .inl (k0, na2_items, .inl a2_items)), (h0, .inr (7, oX4 (.ref h2) (-1))), (h1, .inr (13, oX10 a1_there a1_count a1_captures a1_ranges (.ref h4) (.ref h5) (.ref h6) (.ref h13) (.ref h14) (.ref h7) (.ref h8) (.ref h9) (.ref h10) (.ref h15) (.ref h16) (.ref h17) (.ref h18) (.ref h19) (.ref h11) (.ref h12))), (h4, .inl (k1, 256, .inl a1_sort)), (h5, .inl (k2, 256, .inl a1_holder)), (h6, .inl (k3, 256, .inl a1_end)), (h7, .inl (k4, 256, .inl a1_parts)), (h8, .inl (k5, 256, .inl a1_value)), (h9, .inl (k6, 256, .inl a1_low)), (h10, .inl (k7, 256, .inl a1_high)), (h11, .inl (k8, 512, .inl a1_rangeBegin)), (h12, .inl (k9, 512, .inl a1_rangeEnd))]) [0, 1, 2, 3, 4, 5, 6, 7, 8, 9, 10, 11, 12] (by decide) rfl
  have hKc_4 := hK.sub (tys' := [(k0, .int), (k1, .int), (k2, .int), (k3, .int), (k4, .int), (k5, .int), (k6, .int), (k7, .int), (k8, .int), (k9, .int)]) [0, 1, 2, 3, 4, 5, 6, 7, 8, 9] rfl
  have hFc_4 := va_free (wc := [(h2, .inr (10, oX7 (.ref h3) r_2_0 r_2_1 a2_there)), (h3, .inl (k0, na2_items, .inl a2_items)), (h0, .inr (7, oX4 (.ref h2) (-1))), (h1, .inr (13, oX10 a1_there a1_count a1_captures a1_ranges (.ref h4) (.ref h5) (.ref h6) (.ref h13) (.ref h14) (.ref h7) (.ref h8) (.ref h9) (.ref h10) (.ref h15) (.ref h16) (.ref h17) (.ref h18) (.ref h19) (.ref h11) (.ref h12))), (h4, .inl (k1, 256, .inl a1_sort)), (h5, .inl (k2, 256, .inl a1_holder)), (h6, .inl (k3, 256, .inl a1_end)), (h7, .inl (k4, 256, .inl a1_parts)), (h8, .inl (k5, 256, .inl a1_value)), (h9, .inl (k6, 256, .inl a1_low)), (h10, .inl (k7, 256, .inl a1_high)), (h11, .inl (k8, 512, .inl a1_rangeBegin)), (h12, .inl (k9, 512, .inl a1_rangeEnd))]) hD_3 hS_3 hA [0, 1, 2, 3, 4, 5, 6, 7, 8, 9, 10, 11, 12] rfl
  refine va_callv (va_runV (As := [.ref h1, .int 0, .int 0]) (rest := []) ⟨hx, hb, hml, hown, ht⟩ (mt_X4_writeNode 64 l dC dI h0 h1 h2 h3 h4 h5 h6 h7 h8 h9 h10 h11 h12 h13 h14 h15 h16 h17 h18 h19 k0 k1 k2 k3 k4 k5 k6 k7 k8 k9 0 0 r_2_0 r_2_1 a2_there a2_items na2_items (-1) a1_there a1_count a1_captures a1_ranges a1_sort a1_holder a1_end a1_parts a1_value a1_low a1_high a1_rangeBegin a1_rangeEnd _ w_2 H_3.size) (cwV 3 ht (goodV tw_1197 tw_1199 tw_41 tw_242 gw_X4_writeNode) rfl rfl rfl (by decide +kernel) ⟨Nat.le_of_ble_eq_true rfl, Nat.le_of_ble_eq_true rfl⟩) ⟨fun a U g mk q => by obtain ⟨q0, q1, qP, qK, qD, q5⟩ := q; exact ⟨q0, q1, qP, va_K.moved (u := U) (U := U.calling g mk a) (Vm.Alike.refl U.vm) qK, qD, q5.calling⟩, va_recv hKc_4 hPc_4 (ci := 7) (q0 := 2) rfl rfl, fun U hU hW => ⟨rfl, by rw [hU], by rw [hU]; exact hPc_4, va_K.moved hW.alike hKc_4, hDc_4.weaken (fun _ _ _ _ => trivial), hE.warm hW⟩⟩ rfl rfl hl.1 rfl (lv_room (Nat.le_of_ble_eq_true rfl)) dX4_write_21 ⟨Nat.le_of_ble_eq_true rfl, Nat.le_of_ble_eq_true rfl⟩) hS_3 (fun q _ h => hFc_4 q h) hFc_4 (fun u_4 t_4 H_4 locs_4 ht_4 hvm_4 hw_4 hB_4 hz_4 hk_4 hS_4 => ?_)
  subst hw_4
  obtain ⟨r_4_0, r_4_1, r_4_2, r_4_3, w_4, hP1_4, hD1_4⟩ := hB_4
  rw [ht_4] at hP1_4
  obtain ⟨hP_4, hD_4⟩ := va_join (wr := []) (w1 := [(h2, .inr (10, oX7 (.ref h3) r_4_0 r_4_1 a2_there)), (h3, .inl (k0, na2_items, .inl r_4_2)), (h0, .inr (7, oX4 (.ref h2) r_4_3)), (h1, .inr (13, oX10 a1_there a1_count a1_captures a1_ranges (.ref h4) (.ref h5) (.ref h6) (.ref h13) (.ref h14) (.ref h7) (.ref h8) (.ref h9) (.ref h10) (.ref h15) (.ref h16) (.ref h17) (.ref h18) (.ref h19) (.ref h11) (.ref h12))), (h4, .inl (k1, 256, .inl a1_sort)), (h5, .inl (k2, 256, .inl a1_holder)), (h6, .inl (k3, 256, .inl a1_end)), (h7, .inl (k4, 256, .inl a1_parts)), (h8, .inl (k5, 256, .inl a1_value)), (h9, .inl (k6, 256, .inl a1_low)), (h10, .inl (k7, 256, .inl a1_high)), (h11, .inl (k8, 512, .inl a1_rangeBegin)), (h12, .inl (k9, 512, .inl a1_rangeEnd))]) hP_3 hD_3 [0, 1, 2, 3, 4, 5, 6, 7, 8, 9, 10, 11, 12] [] rfl rfl (by decide) (by decide) hk_4 hFc_4 hP1_4 hD1_4
  have hP_4 := hP_4.sub (ws' := [(h2, .inr (10, oX7 (.ref h3) r_4_0 r_4_1 a2_there)), (h3, .inl (k0, na2_items, .inl r_4_2)), (h0, .inr (7, oX4 (.ref h2) r_4_3)), (h1, .inr (13, oX10 a1_there a1_count a1_captures a1_ranges (.ref h4) (.ref h5) (.ref h6) (.ref h13) (.ref h14) (.ref h7) (.ref h8) (.ref h9) (.ref h10) (.ref h15) (.ref h16) (.ref h17) (.ref h18) (.ref h19) (.ref h11) (.ref h12))), (h4, .inl (k1, 256, .inl a1_sort)), (h5, .inl (k2, 256, .inl a1_holder)), (h6, .inl (k3, 256, .inl a1_end)), (h7, .inl (k4, 256, .inl a1_parts)), (h8, .inl (k5, 256, .inl a1_value)), (h9, .inl (k6, 256, .inl a1_low)), (h10, .inl (k7, 256, .inl a1_high)), (h11, .inl (k8, 512, .inl a1_rangeBegin)), (h12, .inl (k9, 512, .inl a1_rangeEnd))]) [0, 1, 2, 3, 4, 5, 6, 7, 8, 9, 10, 11, 12] rfl
  have hD_4 := hD_4.sub (ws' := [(h2, .inr (10, oX7 (.ref h3) r_4_0 r_4_1 a2_there)), (h3, .inl (k0, na2_items, .inl r_4_2)), (h0, .inr (7, oX4 (.ref h2) r_4_3)), (h1, .inr (13, oX10 a1_there a1_count a1_captures a1_ranges (.ref h4) (.ref h5) (.ref h6) (.ref h13) (.ref h14) (.ref h7) (.ref h8) (.ref h9) (.ref h10) (.ref h15) (.ref h16) (.ref h17) (.ref h18) (.ref h19) (.ref h11) (.ref h12))), (h4, .inl (k1, 256, .inl a1_sort)), (h5, .inl (k2, 256, .inl a1_holder)), (h6, .inl (k3, 256, .inl a1_end)), (h7, .inl (k4, 256, .inl a1_parts)), (h8, .inl (k5, 256, .inl a1_value)), (h9, .inl (k6, 256, .inl a1_low)), (h10, .inl (k7, 256, .inl a1_high)), (h11, .inl (k8, 512, .inl a1_rangeBegin)), (h12, .inl (k9, 512, .inl a1_rangeEnd))]) [0, 1, 2, 3, 4, 5, 6, 7, 8, 9, 10, 11, 12] (by decide) rfl
  clear hPc_4 hDc_4 hKc_4 hFc_4 hP1_4 hD1_4 hk_4 hz_4
  rw [hQQ]
  exact W.vret hx hb hr (fun t9 ht9 hW9 => ⟨⟨0, rfl, rfl, ⟨r_4_0, r_4_1, r_4_2, r_4_3, w_4, by rw [ht9]; exact hP_4, hD_4⟩⟩, hS_4.F ht9⟩) hS_4.2.2 dX4_write_24
def w_X3_setCell_17 (Q : (Nat → Int32) → Prop) (v_cells_17 : Nat → Int32) : Prop :=
  Q  v_cells_17
def w_X3_setCell (p1 : Int32) (p2 : Int32) (v_cells : Nat → Int32) (Q : (Nat → Int32) → Prop) : Prop :=
  ((p1 < 0) → w_X3_setCell_17 Q v_cells) ∧ ((¬ p1 < 0) → ((20 ≤ p1) → w_X3_setCell_17 Q v_cells) ∧ ((¬ 20 ≤ p1) → vp_in p1 20 ∧ ∀ g_3 : Nat → Int32, g_3 = upd v_cells p1.toNatClampNeg p2 → w_X3_setCell_17 Q g_3))
set_option maxHeartbeats 4000000 in
set_option maxRecDepth 100000 in
theorem mt_X3_setCell (l : Launch) (dC : Nat → ClassId) (dI : Nat → Nat → Nat) (h0 h1 h2 h3 h4 h5 h6 h7 h8 h9 h10 h11 h12 : Nat) (k0 : ClassId) (p1 : Int32) (p2 : Int32) (v_width : Int32) (v_nowCount : Int32) (v_nextCount : Int32) (v_stamp : Int32) (v_stackCount : Int32) (v_cells : Nat → Int32) (Q : (Nat → Int32) → Prop) (w : w_X3_setCell p1 p2 v_cells Q) (sz : Nat) : Met l yX3_setCell (WS yX3_setCell cX3_setCell 3 none) ({ frames := 0, cells := 0, slots := 0, locals := 0 } : Room) (va_Pc [.ref h0, .int p1, .int p2] (fun U => U.heap.size = sz ∧ va_P (dC, dI) vwCl [(h0, .inr (6, oX3 (.ref h2) (.ref h3) v_width (.ref h4) (.ref h5) (.ref h6) v_nowCount (.ref h7) (.ref h8) v_nextCount (.ref h9) (.ref h10) v_stamp (.ref h1) (.ref h11) (.ref h12) v_stackCount)), (h1, .inl (k0, 20, .inl v_cells))] U.heap ∧ va_K (dC, dI) vwCl [(k0, .int)] U ∧ va_D (fun _ => True) [(h0, .inr (6, oX3 (.ref h2) (.ref h3) v_width (.ref h4) (.ref h5) (.ref h6) v_nowCount (.ref h7) (.ref h8) v_nextCount (.ref h9) (.ref h10) v_stamp (.ref h1) (.ref h11) (.ref h12) v_stackCount)), (h1, .inl (k0, 20, .inl v_cells))])) (va_Qv (fun (u : Nat) => u = 0) (fun (_ : Nat) (t : State) => ∃ (ov_cells : Nat → Int32), (Q ov_cells) ∧ va_P (dC, dI) vwCl [(h0, .inr (6, oX3 (.ref h2) (.ref h3) v_width (.ref h4) (.ref h5) (.ref h6) v_nowCount (.ref h7) (.ref h8) v_nextCount (.ref h9) (.ref h10) v_stamp (.ref h1) (.ref h11) (.ref h12) v_stackCount)), (h1, .inl (k0, 20, .inl ov_cells))] t.heap ∧ va_D (va_A [(h0, .inr (6, oX3 (.ref h2) (.ref h3) v_width (.ref h4) (.ref h5) (.ref h6) v_nowCount (.ref h7) (.ref h8) v_nextCount (.ref h9) (.ref h10) v_stamp (.ref h1) (.ref h11) (.ref h12) v_stackCount)), (h1, .inl (k0, 20, .inl v_cells))] sz) [(h0, .inr (6, oX3 (.ref h2) (.ref h3) v_width (.ref h4) (.ref h5) (.ref h6) v_nowCount (.ref h7) (.ref h8) v_nextCount (.ref h9) (.ref h10) v_stamp (.ref h1) (.ref h11) (.ref h12) v_stackCount)), (h1, .inl (k0, 20, .inl ov_cells))]) (va_A [(h0, .inr (6, oX3 (.ref h2) (.ref h3) v_width (.ref h4) (.ref h5) (.ref h6) v_nowCount (.ref h7) (.ref h8) v_nextCount (.ref h9) (.ref h10) v_stamp (.ref h1) (.ref h11) (.ref h12) v_stackCount)), (h1, .inl (k0, 20, .inl v_cells))] sz)) 0 0 (va_A [(h0, .inr (6, oX3 (.ref h2) (.ref h3) v_width (.ref h4) (.ref h5) (.ref h6) v_nowCount (.ref h7) (.ref h8) v_nextCount (.ref h9) (.ref h10) v_stamp (.ref h1) (.ref h11) (.ref h12) v_stackCount)), (h1, .inl (k0, 20, .inl v_cells))] sz) := by
  refine Met.ofW (cc := cX3_setCell) (maxL := 3) (ret := none) (by decide) rfl ?_
  intro p e s m args below meth c s₁ B hml hv
  obtain ⟨rfl, hsz, hP, hK, hD0⟩ := hv
  have hx := B.exec
  have hb := B.bytes
  have hr := B.returns
  have hts := atoms_spec (ws := WS yX3_setCell cX3_setCell 3 none) B.pre
  have ht : ∀ w ∈ TW, w.before _ s = true := fun w h => hts w (List.mem_cons_of_mem _ h)
  have hown : s.vm.findClass "PatternWorkshop$Parallel" = some m.cls := findClass_of_methodNamed B.named
  have hlocks := B.notSynchronized
  subst hsz
  have hD := hD0.self (sz := s.heap.size)
  generalize hAe : va_A [(h0, .inr (6, oX3 (.ref h2) (.ref h3) v_width (.ref h4) (.ref h5) (.ref h6) v_nowCount (.ref h7) (.ref h8) v_nextCount (.ref h9) (.ref h10) v_stamp (.ref h1) (.ref h11) (.ref h12) v_stackCount)), (h1, .inl (k0, 20, .inl v_cells))] s.heap.size = A at hD ⊢
  have hA : ∀ q : Nat, s.heap.size ≤ q → A q := fun q h => by rw [← hAe]; exact Or.inr h
  have hS : va_S A s.heap s.heap [] := va_S.rf
  have hP : va_P (dC, dI) vwCl [(h0, .inr (6, oX3 (.ref h2) (.ref h3) v_width (.ref h4) (.ref h5) (.ref h6) v_nowCount (.ref h7) (.ref h8) v_nextCount (.ref h9) (.ref h10) v_stamp (.ref h1) (.ref h11) (.ref h12) v_stackCount)), (h1, .inl (k0, 20, .inl v_cells))] s.heap := hP
  have hl := lv_entry ([.ref h0, .int p1, .int p2]) (n := 3) (Nat.le_of_ble_eq_true rfl)
  rw [lg_entry_eq]
  generalize (lg_sl ([.ref h0, .int p1, .int p2]) ++ List.replicate (3 - (lg_sl ([.ref h0, .int p1, .int p2])).length) Slot.unset).toArray = ls at hl ⊢
  have hl : lv_has ls 3 [(0, .ref h0), (1, .int p1), (2, .int p2)] := hl
  clear hD0
  obtain ⟨QQ, hQQ⟩ : ∃ QQ, QQ = MQ below (va_Qv (fun (u : Nat) => u = 0) (fun (_ : Nat) (t : State) => ∃ (ov_cells : Nat → Int32), (Q ov_cells) ∧ va_P (dC, dI) vwCl [(h0, .inr (6, oX3 (.ref h2) (.ref h3) v_width (.ref h4) (.ref h5) (.ref h6) v_nowCount (.ref h7) (.ref h8) v_nextCount (.ref h9) (.ref h10) v_stamp (.ref h1) (.ref h11) (.ref h12) v_stackCount)), (h1, .inl (k0, 20, .inl ov_cells))] t.heap ∧ va_D A [(h0, .inr (6, oX3 (.ref h2) (.ref h3) v_width (.ref h4) (.ref h5) (.ref h6) v_nowCount (.ref h7) (.ref h8) v_nextCount (.ref h9) (.ref h10) v_stamp (.ref h1) (.ref h11) (.ref h12) v_stackCount)), (h1, .inl (k0, 20, .inl ov_cells))]) A) ([.ref h0, .int p1, .int p2]).toArray s 0 0 A := ⟨_, rfl⟩
  show W p l e ({ frames := 0, cells := 0, slots := 0, locals := 0 } : Room) s m ([.ref h0, .int p1, .int p2]).toArray below meth c s.heap [] 0 0 (MQ below (va_Qv (fun (u : Nat) => u = 0) (fun (_ : Nat) (t : State) => ∃ (ov_cells : Nat → Int32), (Q ov_cells) ∧ va_P (dC, dI) vwCl [(h0, .inr (6, oX3 (.ref h2) (.ref h3) v_width (.ref h4) (.ref h5) (.ref h6) v_nowCount (.ref h7) (.ref h8) v_nextCount (.ref h9) (.ref h10) v_stamp (.ref h1) (.ref h11) (.ref h12) v_stackCount)), (h1, .inl (k0, 20, .inl ov_cells))] t.heap ∧ va_D A [(h0, .inr (6, oX3 (.ref h2) (.ref h3) v_width (.ref h4) (.ref h5) (.ref h6) v_nowCount (.ref h7) (.ref h8) v_nextCount (.ref h9) (.ref h10) v_stamp (.ref h1) (.ref h11) (.ref h12) v_stackCount)), (h1, .inl (k0, 20, .inl ov_cells))]) A) ([.ref h0, .int p1, .int p2]).toArray s 0 0 A) (F0 m 0 ls [])
  rw [← hQQ]
  unfold w_X3_setCell at w
  refine lv_iload_n hx hb dX3_setCell_0 rfl (lv_at hl 1 rfl) ?_
  have k_17 : ∀ (v_cells_17 : Nat → Int32), ∀ (H_b17 : Heap) (locs_b17 : List Loc) (ls_b17 : Array Slot), w_X3_setCell_17 Q v_cells_17 → va_P (dC, dI) vwCl [(h0, .inr (6, oX3 (.ref h2) (.ref h3) v_width (.ref h4) (.ref h5) (.ref h6) v_nowCount (.ref h7) (.ref h8) v_nextCount (.ref h9) (.ref h10) v_stamp (.ref h1) (.ref h11) (.ref h12) v_stackCount)), (h1, .inl (k0, 20, .inl v_cells_17))] H_b17 → va_D A [(h0, .inr (6, oX3 (.ref h2) (.ref h3) v_width (.ref h4) (.ref h5) (.ref h6) v_nowCount (.ref h7) (.ref h8) v_nextCount (.ref h9) (.ref h10) v_stamp (.ref h1) (.ref h11) (.ref h12) v_stackCount)), (h1, .inl (k0, 20, .inl v_cells_17))] → va_S A s.heap H_b17 locs_b17 → lv_has ls_b17 3 [] → W p l e ({ frames := 0, cells := 0, slots := 0, locals := 0 } : Room) s m ([.ref h0, .int p1, .int p2]).toArray below meth c H_b17 locs_b17 0 0 QQ (F0 m 17 ls_b17 []) := by
    intro v_cells_17 H_b17 locs_b17 ls_b17 w_b17 hP_b17 hD_b17 hS_b17 hl_b17
    unfold w_X3_setCell_17 at w_b17
    rw [hQQ]
    exact W.vret hx hb hr (fun t9 ht9 hW9 => ⟨⟨0, rfl, rfl, ⟨v_cells_17, w_b17, by rw [ht9]; exact hP_b17, hD_b17⟩⟩, hS_b17.F ht9⟩) hS_b17.2.2 dX3_setCell_17
  refine lv_if_lt (tgt := 17) hx hb dX3_setCell_1 (by decide) (fun c_1 => ?_) (fun c_1 => ?_)
  · exact k_17 v_cells _ _ _ (w.1 c_1) hP hD hS (lv_sub hl [] rfl)
  · refine lv_iload_n hx hb dX3_setCell_4 rfl (lv_at hl 1 rfl) ?_
    refine lv_bipush (v := 20) hx hb dX3_setCell_5 (by decide) ?_
    refine lv_icmp_ge (tgt := 17) hx hb dX3_setCell_7 (by decide) (fun c_2 => ?_) (fun c_2 => ?_)
    · exact k_17 v_cells _ _ _ ((w.2 c_1).1 c_2) hP hD hS (lv_sub hl [] rfl)
    · refine lv_aload_n hx hb dX3_setCell_10 rfl (lv_at hl 0 rfl) ?_
      refine va_get (D := (dC, dI)) (ci := 6) (v := .ref h1) (C := RX3) (T := TX3) (N := 17) hx hb ht inX3 hown hK hP 0 rfl rfl 13 (by decide) (ht _ tw_632) (fun _ h9 => h9) rfl dX3_setCell_11 ?_
      refine lv_iload_n hx hb dX3_setCell_14 rfl (lv_at hl 1 rfl) ?_
      refine lv_iload_n hx hb dX3_setCell_15 rfl (lv_at hl 2 rfl) ?_
      refine va_iast hx hb hK hP hD hS 1 0 rfl rfl (i := p1) ((w.2 c_1).2 c_2).1 dX3_setCell_16 (fun H_3 locs_3 hP_3 hD_3 hS_3 => ?_)
      obtain ⟨g_3, hg_3⟩ : ∃ g : Nat → Int32, g = upd v_cells p1.toNatClampNeg p2 := ⟨_, rfl⟩
      have hP_3 : va_P (dC, dI) vwCl [(h0, .inr (6, oX3 (.ref h2) (.ref h3) v_width (.ref h4) (.ref h5) (.ref h6) v_nowCount (.ref h7) (.ref h8) v_nextCount (.ref h9) (.ref h10) v_stamp (.ref h1) (.ref h11) (.ref h12) v_stackCount)), (h1, .inl (k0, 20, .inl g_3))] H_3 := by rw [hg_3]; exact hP_3
      have hD_3 : va_D A [(h0, .inr (6, oX3 (.ref h2) (.ref h3) v_width (.ref h4) (.ref h5) (.ref h6) v_nowCount (.ref h7) (.ref h8) v_nextCount (.ref h9) (.ref h10) v_stamp (.ref h1) (.ref h11) (.ref h12) v_stackCount)), (h1, .inl (k0, 20, .inl g_3))] := by rw [hg_3]; exact hD_3
      exact k_17 g_3 _ _ _ ((((w.2 c_1).2 c_2).2) g_3 hg_3) hP_3 hD_3 hS_3 (lv_sub hl [] rfl)
def w_X3_cellAt_20 (Q : Int32 → Prop) (s0_20 : Int32) : Prop :=
  Q s0_20
def w_X3_cellAt_19 (Q : Int32 → Prop) : Prop :=
  w_X3_cellAt_20 Q (-1)
def w_X3_cellAt (p1 : Int32) (v_cells : Nat → Int32) (Q : Int32 → Prop) : Prop :=
  ((p1 < 0) → w_X3_cellAt_19 Q) ∧ ((¬ p1 < 0) → ((20 ≤ p1) → w_X3_cellAt_19 Q) ∧ ((¬ 20 ≤ p1) → vp_in p1 20 ∧ ∀ x_3 : Int32, x_3 = v_cells p1.toNatClampNeg → w_X3_cellAt_20 Q x_3))
set_option maxHeartbeats 4000000 in
set_option maxRecDepth 100000 in
theorem mt_X3_cellAt (l : Launch) (dC : Nat → ClassId) (dI : Nat → Nat → Nat) (h0 h1 h2 h3 h4 h5 h6 h7 h8 h9 h10 h11 h12 : Nat) (k0 : ClassId) (p1 : Int32) (v_width : Int32) (v_nowCount : Int32) (v_nextCount : Int32) (v_stamp : Int32) (v_stackCount : Int32) (v_cells : Nat → Int32) (Q : Int32 → Prop) (w : w_X3_cellAt p1 v_cells Q) (sz : Nat) : Met l yX3_cellAt (WS yX3_cellAt cX3_cellAt 2 (some (.int))) ({ frames := 0, cells := 0, slots := 0, locals := 0 } : Room) (va_Pc [.ref h0, .int p1] (fun U => U.heap.size = sz ∧ va_P (dC, dI) vwCl [(h0, .inr (6, oX3 (.ref h2) (.ref h3) v_width (.ref h4) (.ref h5) (.ref h6) v_nowCount (.ref h7) (.ref h8) v_nextCount (.ref h9) (.ref h10) v_stamp (.ref h1) (.ref h11) (.ref h12) v_stackCount)), (h1, .inl (k0, 20, .inl v_cells))] U.heap ∧ va_K (dC, dI) vwCl [(k0, .int)] U ∧ va_D (fun _ => True) [(h0, .inr (6, oX3 (.ref h2) (.ref h3) v_width (.ref h4) (.ref h5) (.ref h6) v_nowCount (.ref h7) (.ref h8) v_nextCount (.ref h9) (.ref h10) v_stamp (.ref h1) (.ref h11) (.ref h12) v_stackCount)), (h1, .inl (k0, 20, .inl v_cells))])) (va_Qi (fun (r u : Int32) => r = u) (fun (u : Int32) (t : State) => (Q u) ∧ va_P (dC, dI) vwCl [(h0, .inr (6, oX3 (.ref h2) (.ref h3) v_width (.ref h4) (.ref h5) (.ref h6) v_nowCount (.ref h7) (.ref h8) v_nextCount (.ref h9) (.ref h10) v_stamp (.ref h1) (.ref h11) (.ref h12) v_stackCount)), (h1, .inl (k0, 20, .inl v_cells))] t.heap ∧ va_D (va_A [(h0, .inr (6, oX3 (.ref h2) (.ref h3) v_width (.ref h4) (.ref h5) (.ref h6) v_nowCount (.ref h7) (.ref h8) v_nextCount (.ref h9) (.ref h10) v_stamp (.ref h1) (.ref h11) (.ref h12) v_stackCount)), (h1, .inl (k0, 20, .inl v_cells))] sz) [(h0, .inr (6, oX3 (.ref h2) (.ref h3) v_width (.ref h4) (.ref h5) (.ref h6) v_nowCount (.ref h7) (.ref h8) v_nextCount (.ref h9) (.ref h10) v_stamp (.ref h1) (.ref h11) (.ref h12) v_stackCount)), (h1, .inl (k0, 20, .inl v_cells))]) (va_A [(h0, .inr (6, oX3 (.ref h2) (.ref h3) v_width (.ref h4) (.ref h5) (.ref h6) v_nowCount (.ref h7) (.ref h8) v_nextCount (.ref h9) (.ref h10) v_stamp (.ref h1) (.ref h11) (.ref h12) v_stackCount)), (h1, .inl (k0, 20, .inl v_cells))] sz)) 0 0 (va_A [(h0, .inr (6, oX3 (.ref h2) (.ref h3) v_width (.ref h4) (.ref h5) (.ref h6) v_nowCount (.ref h7) (.ref h8) v_nextCount (.ref h9) (.ref h10) v_stamp (.ref h1) (.ref h11) (.ref h12) v_stackCount)), (h1, .inl (k0, 20, .inl v_cells))] sz) := by
  refine Met.ofW (cc := cX3_cellAt) (maxL := 2) (ret := (some (.int))) (by decide) rfl ?_
  intro p e s m args below meth c s₁ B hml hv
  obtain ⟨rfl, hsz, hP, hK, hD0⟩ := hv
  have hx := B.exec
  have hb := B.bytes
  have hr := B.returns
  have hts := atoms_spec (ws := WS yX3_cellAt cX3_cellAt 2 (some (.int))) B.pre
  have ht : ∀ w ∈ TW, w.before _ s = true := fun w h => hts w (List.mem_cons_of_mem _ h)
  have hown : s.vm.findClass "PatternWorkshop$Parallel" = some m.cls := findClass_of_methodNamed B.named
  have hlocks := B.notSynchronized
  subst hsz
  have hD := hD0.self (sz := s.heap.size)
  generalize hAe : va_A [(h0, .inr (6, oX3 (.ref h2) (.ref h3) v_width (.ref h4) (.ref h5) (.ref h6) v_nowCount (.ref h7) (.ref h8) v_nextCount (.ref h9) (.ref h10) v_stamp (.ref h1) (.ref h11) (.ref h12) v_stackCount)), (h1, .inl (k0, 20, .inl v_cells))] s.heap.size = A at hD ⊢
  have hA : ∀ q : Nat, s.heap.size ≤ q → A q := fun q h => by rw [← hAe]; exact Or.inr h
  have hS : va_S A s.heap s.heap [] := va_S.rf
  have hP : va_P (dC, dI) vwCl [(h0, .inr (6, oX3 (.ref h2) (.ref h3) v_width (.ref h4) (.ref h5) (.ref h6) v_nowCount (.ref h7) (.ref h8) v_nextCount (.ref h9) (.ref h10) v_stamp (.ref h1) (.ref h11) (.ref h12) v_stackCount)), (h1, .inl (k0, 20, .inl v_cells))] s.heap := hP
  have hl := lv_entry ([.ref h0, .int p1]) (n := 2) (Nat.le_of_ble_eq_true rfl)
  rw [lg_entry_eq]
  generalize (lg_sl ([.ref h0, .int p1]) ++ List.replicate (2 - (lg_sl ([.ref h0, .int p1])).length) Slot.unset).toArray = ls at hl ⊢
  have hl : lv_has ls 2 [(0, .ref h0), (1, .int p1)] := hl
  clear hD0
  obtain ⟨QQ, hQQ⟩ : ∃ QQ, QQ = MQ below (va_Qi (fun (r u : Int32) => r = u) (fun (u : Int32) (t : State) => (Q u) ∧ va_P (dC, dI) vwCl [(h0, .inr (6, oX3 (.ref h2) (.ref h3) v_width (.ref h4) (.ref h5) (.ref h6) v_nowCount (.ref h7) (.ref h8) v_nextCount (.ref h9) (.ref h10) v_stamp (.ref h1) (.ref h11) (.ref h12) v_stackCount)), (h1, .inl (k0, 20, .inl v_cells))] t.heap ∧ va_D A [(h0, .inr (6, oX3 (.ref h2) (.ref h3) v_width (.ref h4) (.ref h5) (.ref h6) v_nowCount (.ref h7) (.ref h8) v_nextCount (.ref h9) (.ref h10) v_stamp (.ref h1) (.ref h11) (.ref h12) v_stackCount)), (h1, .inl (k0, 20, .inl v_cells))]) A) ([.ref h0, .int p1]).toArray s 0 0 A := ⟨_, rfl⟩
  show W p l e ({ frames := 0, cells := 0, slots := 0, locals := 0 } : Room) s m ([.ref h0, .int p1]).toArray below meth c s.heap [] 0 0 (MQ below (va_Qi (fun (r u : Int32) => r = u) (fun (u : Int32) (t : State) => (Q u) ∧ va_P (dC, dI) vwCl [(h0, .inr (6, oX3 (.ref h2) (.ref h3) v_width (.ref h4) (.ref h5) (.ref h6) v_nowCount (.ref h7) (.ref h8) v_nextCount (.ref h9) (.ref h10) v_stamp (.ref h1) (.ref h11) (.ref h12) v_stackCount)), (h1, .inl (k0, 20, .inl v_cells))] t.heap ∧ va_D A [(h0, .inr (6, oX3 (.ref h2) (.ref h3) v_width (.ref h4) (.ref h5) (.ref h6) v_nowCount (.ref h7) (.ref h8) v_nextCount (.ref h9) (.ref h10) v_stamp (.ref h1) (.ref h11) (.ref h12) v_stackCount)), (h1, .inl (k0, 20, .inl v_cells))]) A) ([.ref h0, .int p1]).toArray s 0 0 A) (F0 m 0 ls [])
  rw [← hQQ]
  unfold w_X3_cellAt at w
  refine lv_iload_n hx hb dX3_cellAt_0 rfl (lv_at hl 1 rfl) ?_
  have k_20 : ∀ (s0_20 : Int32), ∀ (H_b20 : Heap) (locs_b20 : List Loc) (ls_b20 : Array Slot), w_X3_cellAt_20 Q s0_20 → va_P (dC, dI) vwCl [(h0, .inr (6, oX3 (.ref h2) (.ref h3) v_width (.ref h4) (.ref h5) (.ref h6) v_nowCount (.ref h7) (.ref h8) v_nextCount (.ref h9) (.ref h10) v_stamp (.ref h1) (.ref h11) (.ref h12) v_stackCount)), (h1, .inl (k0, 20, .inl v_cells))] H_b20 → va_D A [(h0, .inr (6, oX3 (.ref h2) (.ref h3) v_width (.ref h4) (.ref h5) (.ref h6) v_nowCount (.ref h7) (.ref h8) v_nextCount (.ref h9) (.ref h10) v_stamp (.ref h1) (.ref h11) (.ref h12) v_stackCount)), (h1, .inl (k0, 20, .inl v_cells))] → va_S A s.heap H_b20 locs_b20 → lv_has ls_b20 2 [] → W p l e ({ frames := 0, cells := 0, slots := 0, locals := 0 } : Room) s m ([.ref h0, .int p1]).toArray below meth c H_b20 locs_b20 0 0 QQ (F0 m 20 ls_b20 [.int s0_20]) := by
    intro s0_20 H_b20 locs_b20 ls_b20 w_b20 hP_b20 hD_b20 hS_b20 hl_b20
    unfold w_X3_cellAt_20 at w_b20
    rw [hQQ]
    exact W.iret (v := s0_20) hx hb hr (fun t9 ht9 hW9 => ⟨⟨s0_20, s0_20, rfl, rfl, ⟨w_b20, by rw [ht9]; exact hP_b20, hD_b20⟩⟩, hS_b20.F ht9⟩) hS_b20.2.2 dX3_cellAt_20
  have k_19 : ∀ (H_b19 : Heap) (locs_b19 : List Loc) (ls_b19 : Array Slot), w_X3_cellAt_19 Q → va_P (dC, dI) vwCl [(h0, .inr (6, oX3 (.ref h2) (.ref h3) v_width (.ref h4) (.ref h5) (.ref h6) v_nowCount (.ref h7) (.ref h8) v_nextCount (.ref h9) (.ref h10) v_stamp (.ref h1) (.ref h11) (.ref h12) v_stackCount)), (h1, .inl (k0, 20, .inl v_cells))] H_b19 → va_D A [(h0, .inr (6, oX3 (.ref h2) (.ref h3) v_width (.ref h4) (.ref h5) (.ref h6) v_nowCount (.ref h7) (.ref h8) v_nextCount (.ref h9) (.ref h10) v_stamp (.ref h1) (.ref h11) (.ref h12) v_stackCount)), (h1, .inl (k0, 20, .inl v_cells))] → va_S A s.heap H_b19 locs_b19 → lv_has ls_b19 2 [] → W p l e ({ frames := 0, cells := 0, slots := 0, locals := 0 } : Room) s m ([.ref h0, .int p1]).toArray below meth c H_b19 locs_b19 0 0 QQ (F0 m 19 ls_b19 []) := by
    intro  H_b19 locs_b19 ls_b19 w_b19 hP_b19 hD_b19 hS_b19 hl_b19
    unfold w_X3_cellAt_19 at w_b19
    refine lv_iconst (v := (-1)) hx hb dX3_cellAt_19 (by decide) ?_
    exact k_20 (-1) _ _ _ w_b19 hP_b19 hD_b19 hS_b19 (lv_sub hl_b19 [] rfl)
  refine lv_if_lt (tgt := 19) hx hb dX3_cellAt_1 (by decide) (fun c_1 => ?_) (fun c_1 => ?_)
  · exact k_19  _ _ _ (w.1 c_1) hP hD hS (lv_sub hl [] rfl)
  · refine lv_iload_n hx hb dX3_cellAt_4 rfl (lv_at hl 1 rfl) ?_
    refine lv_bipush (v := 20) hx hb dX3_cellAt_5 (by decide) ?_
    refine lv_icmp_ge (tgt := 19) hx hb dX3_cellAt_7 (by decide) (fun c_2 => ?_) (fun c_2 => ?_)
    · exact k_19  _ _ _ ((w.2 c_1).1 c_2) hP hD hS (lv_sub hl [] rfl)
    · refine lv_aload_n hx hb dX3_cellAt_10 rfl (lv_at hl 0 rfl) ?_
      refine va_get (D := (dC, dI)) (ci := 6) (v := .ref h1) (C := RX3) (T := TX3) (N := 17) hx hb ht inX3 hown hK hP 0 rfl rfl 13 (by decide) (ht _ tw_632) (fun _ h9 => h9) rfl dX3_cellAt_11 ?_
      refine lv_iload_n hx hb dX3_cellAt_14 rfl (lv_at hl 1 rfl) ?_
      refine va_iald hx hb hK hP 1 0 rfl rfl (i := p1) ((w.2 c_1).2 c_2).1 dX3_cellAt_15 ?_
      refine lv_topi (fun x_3 ex_3 => ?_)
      have ex_3 : x_3 = v_cells p1.toNatClampNeg := ex_3
      refine lv_goto (tgt := 20) hx hb dX3_cellAt_16 (by decide) ?_
      exact k_20 x_3 _ _ _ ((((w.2 c_1).2 c_2).2) x_3 ex_3) hP hD hS (lv_sub hl [] rfl)
def w_X11_isWordSign_40 (Q : Int32 → Prop) (s0_40 : Int32) : Prop :=
  (s0_40 = 0 ∨ s0_40 = 1) ∧ Q s0_40
def w_X11_isWordSign_35 (Q : Int32 → Prop) : Prop :=
  w_X11_isWordSign_40 Q 1
def w_X11_isWordSign_29 (p0 : Int32) (Q : Int32 → Prop) : Prop :=
  ((¬ p0 = 95) → w_X11_isWordSign_40 Q 0) ∧ ((p0 = 95) → w_X11_isWordSign_35 Q)
def w_X11_isWordSign_17 (p0 : Int32) (Q : Int32 → Prop) : Prop :=
  ((p0 < 48) → w_X11_isWordSign_29 p0 Q) ∧ ((¬ p0 < 48) → ((p0 ≤ 57) → w_X11_isWordSign_35 Q) ∧ ((¬ p0 ≤ 57) → w_X11_isWordSign_29 p0 Q))
def w_X11_isWordSign (p0 : Int32) (Q : Int32 → Prop) : Prop :=
  ∀ x_1 : Int32, x_1 = p0 ||| (32 : Int32) → ((x_1 < 97) → w_X11_isWordSign_17 p0 Q) ∧ ((¬ x_1 < 97) → ((x_1 ≤ 122) → w_X11_isWordSign_35 Q) ∧ ((¬ x_1 ≤ 122) → w_X11_isWordSign_17 p0 Q))
set_option maxHeartbeats 4000000 in
set_option maxRecDepth 100000 in
theorem mt_X11_isWordSign (l : Launch) (dC : Nat → ClassId) (dI : Nat → Nat → Nat) (p0 : Int32) (Q : Int32 → Prop) (w : w_X11_isWordSign p0 Q) (sz : Nat) : Met l yX11_isWordSign (WS yX11_isWordSign cX11_isWordSign 2 (some (.boolean))) ({ frames := 0, cells := 0, slots := 0, locals := 0 } : Room) (va_Pc [.int p0] (fun U => U.heap.size = sz ∧ va_P (dC, dI) vwCl [] U.heap ∧ va_K (dC, dI) vwCl [] U ∧ va_D (fun _ => True) [])) (va_Qi (fun (r u : Int32) => r = u) (fun (u : Int32) (t : State) => (Q u) ∧ va_P (dC, dI) vwCl [] t.heap ∧ va_D (va_A [] sz) []) (va_A [] sz)) 0 0 (va_A [] sz) := by
  refine Met.ofW (cc := cX11_isWordSign) (maxL := 2) (ret := (some (.boolean))) (by decide) rfl ?_
  intro p e s m args below meth c s₁ B hml hv
  obtain ⟨rfl, hsz, hP, hK, hD0⟩ := hv
  have hx := B.exec
  have hb := B.bytes
  have hr := B.returns
  have hts := atoms_spec (ws := WS yX11_isWordSign cX11_isWordSign 2 (some (.boolean))) B.pre
  have ht : ∀ w ∈ TW, w.before _ s = true := fun w h => hts w (List.mem_cons_of_mem _ h)
  have hown : s.vm.findClass "PatternWorkshop" = some m.cls := findClass_of_methodNamed B.named
  have hlocks := B.notSynchronized
  subst hsz
  have hD := hD0.self (sz := s.heap.size)
  generalize hAe : va_A [] s.heap.size = A at hD ⊢
  have hA : ∀ q : Nat, s.heap.size ≤ q → A q := fun q h => by rw [← hAe]; exact Or.inr h
  have hS : va_S A s.heap s.heap [] := va_S.rf
  have hP : va_P (dC, dI) vwCl [] s.heap := hP
  have hl := lv_entry ([.int p0]) (n := 2) (Nat.le_of_ble_eq_true rfl)
  rw [lg_entry_eq]
  generalize (lg_sl ([.int p0]) ++ List.replicate (2 - (lg_sl ([.int p0])).length) Slot.unset).toArray = ls at hl ⊢
  have hl : lv_has ls 2 [(0, .int p0)] := hl
  clear hD0
  obtain ⟨QQ, hQQ⟩ : ∃ QQ, QQ = MQ below (va_Qi (fun (r u : Int32) => r = u) (fun (u : Int32) (t : State) => (Q u) ∧ va_P (dC, dI) vwCl [] t.heap ∧ va_D A []) A) ([.int p0]).toArray s 0 0 A := ⟨_, rfl⟩
  show W p l e ({ frames := 0, cells := 0, slots := 0, locals := 0 } : Room) s m ([.int p0]).toArray below meth c s.heap [] 0 0 (MQ below (va_Qi (fun (r u : Int32) => r = u) (fun (u : Int32) (t : State) => (Q u) ∧ va_P (dC, dI) vwCl [] t.heap ∧ va_D A []) A) ([.int p0]).toArray s 0 0 A) (F0 m 0 ls [])
  rw [← hQQ]
  unfold w_X11_isWordSign at w
  refine lv_iload_n hx hb dX11_isWordSign_0 rfl (lv_at hl 0 rfl) ?_
  refine lv_bipush (v := 32) hx hb dX11_isWordSign_1 (by decide) ?_
  refine lv_ior hx hb dX11_isWordSign_3 ?_
  refine lv_topi (fun x_1 ex_1 => ?_)
  have ex_1 : x_1 = p0 ||| (32 : Int32) := ex_1
  refine lv_istore_n (lv' := [(1, .int x_1), (0, .int p0)]) hx hb dX11_isWordSign_4 rfl hl (by decide) rfl (fun ls_2 hl_2 => ?_)
  clear hl
  refine lv_iload_n hx hb dX11_isWordSign_5 rfl (lv_at hl_2 0 rfl) ?_
  refine lv_bipush (v := 97) hx hb dX11_isWordSign_6 (by decide) ?_
  have k_40 : ∀ (s0_40 : Int32), ∀ (H_b40 : Heap) (locs_b40 : List Loc) (ls_b40 : Array Slot), w_X11_isWordSign_40 Q s0_40 → va_P (dC, dI) vwCl [] H_b40 → va_D A [] → va_S A s.heap H_b40 locs_b40 → lv_has ls_b40 2 [] → W p l e ({ frames := 0, cells := 0, slots := 0, locals := 0 } : Room) s m ([.int p0]).toArray below meth c H_b40 locs_b40 0 0 QQ (F0 m 40 ls_b40 [.int s0_40]) := by
    intro s0_40 H_b40 locs_b40 ls_b40 w_b40 hP_b40 hD_b40 hS_b40 hl_b40
    unfold w_X11_isWordSign_40 at w_b40
    rw [hQQ]
    exact W.zret (v := s0_40) hx hb hr (or_nar w_b40.1) (fun t9 ht9 hW9 => ⟨⟨s0_40, s0_40, rfl, rfl, ⟨w_b40.2, by rw [ht9]; exact hP_b40, hD_b40⟩⟩, hS_b40.F ht9⟩) hS_b40.2.2 dX11_isWordSign_40
  have k_35 : ∀ (H_b35 : Heap) (locs_b35 : List Loc) (ls_b35 : Array Slot), w_X11_isWordSign_35 Q → va_P (dC, dI) vwCl [] H_b35 → va_D A [] → va_S A s.heap H_b35 locs_b35 → lv_has ls_b35 2 [] → W p l e ({ frames := 0, cells := 0, slots := 0, locals := 0 } : Room) s m ([.int p0]).toArray below meth c H_b35 locs_b35 0 0 QQ (F0 m 35 ls_b35 []) := by
    intro  H_b35 locs_b35 ls_b35 w_b35 hP_b35 hD_b35 hS_b35 hl_b35
    unfold w_X11_isWordSign_35 at w_b35
    refine lv_iconst (v := 1) hx hb dX11_isWordSign_35 (by decide) ?_
    refine lv_goto (tgt := 40) hx hb dX11_isWordSign_36 (by decide) ?_
    exact k_40 1 _ _ _ w_b35 hP_b35 hD_b35 hS_b35 (lv_sub hl_b35 [] rfl)
  have k_17 : ∀ (H_b17 : Heap) (locs_b17 : List Loc) (ls_b17 : Array Slot), w_X11_isWordSign_17 p0 Q → va_P (dC, dI) vwCl [] H_b17 → va_D A [] → va_S A s.heap H_b17 locs_b17 → lv_has ls_b17 2 [(0, .int p0)] → W p l e ({ frames := 0, cells := 0, slots := 0, locals := 0 } : Room) s m ([.int p0]).toArray below meth c H_b17 locs_b17 0 0 QQ (F0 m 17 ls_b17 []) := by
    intro  H_b17 locs_b17 ls_b17 w_b17 hP_b17 hD_b17 hS_b17 hl_b17
    unfold w_X11_isWordSign_17 at w_b17
    refine lv_iload_n hx hb dX11_isWordSign_17 rfl (lv_at hl_b17 0 rfl) ?_
    refine lv_bipush (v := 48) hx hb dX11_isWordSign_18 (by decide) ?_
    have k_29 : ∀ (H_b29 : Heap) (locs_b29 : List Loc) (ls_b29 : Array Slot), w_X11_isWordSign_29 p0 Q → va_P (dC, dI) vwCl [] H_b29 → va_D A [] → va_S A s.heap H_b29 locs_b29 → lv_has ls_b29 2 [(0, .int p0)] → W p l e ({ frames := 0, cells := 0, slots := 0, locals := 0 } : Room) s m ([.int p0]).toArray below meth c H_b29 locs_b29 0 0 QQ (F0 m 29 ls_b29 []) := by
      intro  H_b29 locs_b29 ls_b29 w_b29 hP_b29 hD_b29 hS_b29 hl_b29
      unfold w_X11_isWordSign_29 at w_b29
      refine lv_iload_n hx hb dX11_isWordSign_29 rfl (lv_at hl_b29 0 rfl) ?_
      refine lv_bipush (v := 95) hx hb dX11_isWordSign_30 (by decide) ?_
      refine lv_icmp_ne (tgt := 39) hx hb dX11_isWordSign_32 (by decide) (fun c_3 => ?_) (fun c_3 => ?_)
      · refine lv_iconst (v := 0) hx hb dX11_isWordSign_39 (by decide) ?_
        exact k_40 0 _ _ _ (w_b29.1 c_3) hP_b29 hD_b29 hS_b29 (lv_sub hl_b29 [] rfl)
      · exact k_35  _ _ _ (w_b29.2 c_3) hP_b29 hD_b29 hS_b29 (lv_sub hl_b29 [] rfl)
    refine lv_icmp_lt (tgt := 29) hx hb dX11_isWordSign_20 (by decide) (fun c_4 => ?_) (fun c_4 => ?_)
    · exact k_29  _ _ _ (w_b17.1 c_4) hP_b17 hD_b17 hS_b17 (lv_sub hl_b17 [0] rfl)
    · refine lv_iload_n hx hb dX11_isWordSign_23 rfl (lv_at hl_b17 0 rfl) ?_
      refine lv_bipush (v := 57) hx hb dX11_isWordSign_24 (by decide) ?_
      refine lv_icmp_le (tgt := 35) hx hb dX11_isWordSign_26 (by decide) (fun c_5 => ?_) (fun c_5 => ?_)
      · exact k_35  _ _ _ ((w_b17.2 c_4).1 c_5) hP_b17 hD_b17 hS_b17 (lv_sub hl_b17 [] rfl)
      · exact k_29  _ _ _ ((w_b17.2 c_4).2 c_5) hP_b17 hD_b17 hS_b17 (lv_sub hl_b17 [0] rfl)
  refine lv_icmp_lt (tgt := 17) hx hb dX11_isWordSign_8 (by decide) (fun c_6 => ?_) (fun c_6 => ?_)
  · exact k_17  _ _ _ ((w x_1 ex_1).1 c_6) hP hD hS (lv_sub hl_2 [1] rfl)
  · refine lv_iload_n hx hb dX11_isWordSign_11 rfl (lv_at hl_2 0 rfl) ?_
    refine lv_bipush (v := 122) hx hb dX11_isWordSign_12 (by decide) ?_
    refine lv_icmp_le (tgt := 35) hx hb dX11_isWordSign_14 (by decide) (fun c_7 => ?_) (fun c_7 => ?_)
    · exact k_35  _ _ _ (((w x_1 ex_1).2 c_6).1 c_7) hP hD hS (lv_sub hl_2 [] rfl)
    · exact k_17  _ _ _ (((w x_1 ex_1).2 c_6).2 c_7) hP hD hS (lv_sub hl_2 [1] rfl)
def w_X11_edgeHolds_79 (Q : Int32 → Prop) (s0_79 : Int32) : Prop :=
  (s0_79 = 0 ∨ s0_79 = 1) ∧ Q s0_79
def w_X11_edgeHolds_71 (Q : Int32 → Prop) (s0_71 : Int32) (s1_71 : Int32) : Prop :=
  ((¬ s1_71 = s0_71) → w_X11_edgeHolds_79 Q 0) ∧ ((s1_71 = s0_71) → w_X11_edgeHolds_79 Q 1)
def w_X11_edgeHolds_59 (p0 : Int32) (Q : Int32 → Prop) (s0_59 : Int32) : Prop :=
  ((¬ p0 = 2) → w_X11_edgeHolds_71 Q 0 s0_59) ∧ ((p0 = 2) → w_X11_edgeHolds_71 Q 1 s0_59)
def w_X11_edgeHolds_32 (Q : Int32 → Prop) (s0_32 : Int32) : Prop :=
  (s0_32 = 0 ∨ s0_32 = 1) ∧ Q s0_32
def w_X11_edgeHolds_13 (Q : Int32 → Prop) (s0_13 : Int32) : Prop :=
  (s0_13 = 0 ∨ s0_13 = 1) ∧ Q s0_13
def w_X11_edgeHolds (p0 : Int32) (p2 : Int32) (a1_count : Int32) (a1_items : Nat → Int32) (na1_items : Nat) (Q : Int32 → Prop) : Prop :=
  ((¬ p0 = 0) → ((¬ p0 = 1) → ∀ x_3 : Int32, x_3 = p2 - (1 : Int32) → w_X7_at x_3 a1_count a1_items na1_items (fun r_4 => w_X11_isWordSign r_4 (fun r_5 => w_X7_at p2 a1_count a1_items na1_items (fun r_6 => w_X11_isWordSign r_6 (fun r_7 => ((r_5 = r_7) → w_X11_edgeHolds_59 p0 Q 0) ∧ ((¬ r_5 = r_7) → w_X11_edgeHolds_59 p0 Q 1)))))) ∧ ((p0 = 1) → ((¬ p2 = a1_count) → w_X11_edgeHolds_32 Q 0) ∧ ((p2 = a1_count) → w_X11_edgeHolds_32 Q 1))) ∧ ((p0 = 0) → ((¬ p2 = 0) → w_X11_edgeHolds_13 Q 0) ∧ ((p2 = 0) → w_X11_edgeHolds_13 Q 1))
set_option maxHeartbeats 4000000 in
set_option maxRecDepth 100000 in
theorem mt_X11_edgeHolds (l : Launch) (dC : Nat → ClassId) (dI : Nat → Nat → Nat) (h0 h1 : Nat) (k0 : ClassId) (p0 : Int32) (p2 : Int32) (a1_count : Int32) (a1_over : Bool) (a1_there : Bool) (a1_items : Nat → Int32) (na1_items : Nat) (Q : Int32 → Prop) (w : w_X11_edgeHolds p0 p2 a1_count a1_items na1_items Q) (sz : Nat) : Met l yX11_edgeHolds (WS yX11_edgeHolds cX11_edgeHolds 4 (some (.boolean))) ({ frames := 1, cells := 0, slots := 0, locals := 21 } : Room) (va_Pc [.int p0, .ref h0, .int p2] (fun U => U.heap.size = sz ∧ va_P (dC, dI) vwCl [(h0, .inr (10, oX7 (.ref h1) a1_count a1_over a1_there)), (h1, .inl (k0, na1_items, .inl a1_items))] U.heap ∧ va_K (dC, dI) vwCl [(k0, .int)] U ∧ va_D (fun _ => True) [(h0, .inr (10, oX7 (.ref h1) a1_count a1_over a1_there)), (h1, .inl (k0, na1_items, .inl a1_items))])) (va_Qi (fun (r u : Int32) => r = u) (fun (u : Int32) (t : State) => (Q u) ∧ va_P (dC, dI) vwCl [(h0, .inr (10, oX7 (.ref h1) a1_count a1_over a1_there)), (h1, .inl (k0, na1_items, .inl a1_items))] t.heap ∧ va_D (va_A [(h0, .inr (10, oX7 (.ref h1) a1_count a1_over a1_there)), (h1, .inl (k0, na1_items, .inl a1_items))] sz) [(h0, .inr (10, oX7 (.ref h1) a1_count a1_over a1_there)), (h1, .inl (k0, na1_items, .inl a1_items))]) (va_A [(h0, .inr (10, oX7 (.ref h1) a1_count a1_over a1_there)), (h1, .inl (k0, na1_items, .inl a1_items))] sz)) 0 0 (va_A [(h0, .inr (10, oX7 (.ref h1) a1_count a1_over a1_there)), (h1, .inl (k0, na1_items, .inl a1_items))] sz) := by
  refine Met.ofW (cc := cX11_edgeHolds) (maxL := 4) (ret := (some (.boolean))) (by decide) rfl ?_
  intro p e s m args below meth c s₁ B hml hv
  obtain ⟨rfl, hsz, hP, hK, hD0⟩ := hv
  have hx := B.exec
  have hb := B.bytes
  have hr := B.returns
  have hts := atoms_spec (ws := WS yX11_edgeHolds cX11_edgeHolds 4 (some (.boolean))) B.pre
  have ht : ∀ w ∈ TW, w.before _ s = true := fun w h => hts w (List.mem_cons_of_mem _ h)
  have hown : s.vm.findClass "PatternWorkshop" = some m.cls := findClass_of_methodNamed B.named
  have hlocks := B.notSynchronized
  subst hsz
  have hD := hD0.self (sz := s.heap.size)
  generalize hAe : va_A [(h0, .inr (10, oX7 (.ref h1) a1_count a1_over a1_there)), (h1, .inl (k0, na1_items, .inl a1_items))] s.heap.size = A at hD ⊢
  have hA : ∀ q : Nat, s.heap.size ≤ q → A q := fun q h => by rw [← hAe]; exact Or.inr h
  have hS : va_S A s.heap s.heap [] := va_S.rf
  have hP : va_P (dC, dI) vwCl [(h0, .inr (10, oX7 (.ref h1) a1_count a1_over a1_there)), (h1, .inl (k0, na1_items, .inl a1_items))] s.heap := hP
  have hl := lv_entry ([.int p0, .ref h0, .int p2]) (n := 4) (Nat.le_of_ble_eq_true rfl)
  rw [lg_entry_eq]
  generalize (lg_sl ([.int p0, .ref h0, .int p2]) ++ List.replicate (4 - (lg_sl ([.int p0, .ref h0, .int p2])).length) Slot.unset).toArray = ls at hl ⊢
  have hl : lv_has ls 4 [(0, .int p0), (1, .ref h0), (2, .int p2)] := hl
  clear hD0
  obtain ⟨QQ, hQQ⟩ : ∃ QQ, QQ = MQ below (va_Qi (fun (r u : Int32) => r = u) (fun (u : Int32) (t : State) => (Q u) ∧ va_P (dC, dI) vwCl [(h0, .inr (10, oX7 (.ref h1) a1_count a1_over a1_there)), (h1, .inl (k0, na1_items, .inl a1_items))] t.heap ∧ va_D A [(h0, .inr (10, oX7 (.ref h1) a1_count a1_over a1_there)), (h1, .inl (k0, na1_items, .inl a1_items))]) A) ([.int p0, .ref h0, .int p2]).toArray s 0 0 A := ⟨_, rfl⟩
  show W p l e ({ frames := 1, cells := 0, slots := 0, locals := 21 } : Room) s m ([.int p0, .ref h0, .int p2]).toArray below meth c s.heap [] 0 0 (MQ below (va_Qi (fun (r u : Int32) => r = u) (fun (u : Int32) (t : State) => (Q u) ∧ va_P (dC, dI) vwCl [(h0, .inr (10, oX7 (.ref h1) a1_count a1_over a1_there)), (h1, .inl (k0, na1_items, .inl a1_items))] t.heap ∧ va_D A [(h0, .inr (10, oX7 (.ref h1) a1_count a1_over a1_there)), (h1, .inl (k0, na1_items, .inl a1_items))]) A) ([.int p0, .ref h0, .int p2]).toArray s 0 0 A) (F0 m 0 ls [])
  rw [← hQQ]
  unfold w_X11_edgeHolds at w
  refine lv_iload_n hx hb dX11_edgeHolds_0 rfl (lv_at hl 0 rfl) ?_
  refine lv_if_ne (tgt := 14) hx hb dX11_edgeHolds_1 (by decide) (fun c_1 => ?_) (fun c_1 => ?_)
  · refine lv_iload_n hx hb dX11_edgeHolds_14 rfl (lv_at hl 0 rfl) ?_
    refine lv_iconst (v := 1) hx hb dX11_edgeHolds_15 (by decide) ?_
    refine lv_icmp_ne (tgt := 33) hx hb dX11_edgeHolds_16 (by decide) (fun c_2 => ?_) (fun c_2 => ?_)
    · refine lv_aload_n hx hb dX11_edgeHolds_33 rfl (lv_at hl 1 rfl) ?_
      refine lv_iload_n hx hb dX11_edgeHolds_34 rfl (lv_at hl 2 rfl) ?_
      refine lv_iconst (v := 1) hx hb dX11_edgeHolds_35 (by decide) ?_
      refine lv_isub hx hb dX11_edgeHolds_36 ?_
      refine lv_topi (fun x_3 ex_3 => ?_)
      have ex_3 : x_3 = p2 - (1 : Int32) := ex_3
      have hPc_4 := hP.sub (ws' := [(h0, .inr (10, oX7 (.ref h1) a1_count a1_over a1_there)), (h1, .inl (k0, na1_items, .inl a1_items))]) [0, 1] rfl
      have hDc_4 := hD.sub (ws' := [(h0, .inr (10, oX7 (.ref h1) a1_count a1_over a1_there)), (h1, .inl (k0, na1_items, .inl a1_items))]) [0, 1] (by decide) rfl
      have hKc_4 := hK.sub (tys' := [(k0, .int)]) [0] rfl
      have hFc_4 := va_free (wc := [(h0, .inr (10, oX7 (.ref h1) a1_count a1_over a1_there)), (h1, .inl (k0, na1_items, .inl a1_items))]) hD hS hA [0, 1] rfl
      refine va_calli (va_runV (As := [.int x_3]) (rest := []) ⟨hx, hb, hml, hown, ht⟩ (mt_X7_at l dC dI h0 h1 k0 x_3 a1_count a1_over a1_there a1_items na1_items _ (((w.1 c_1).1 c_2) x_3 ex_3) s.heap.size) (cwV 1 ht (goodV tw_1508 tw_908 tw_909 tw_237 gw_X7_at) rfl rfl rfl (by decide +kernel) ⟨Nat.le_of_ble_eq_true rfl, Nat.le_of_ble_eq_true rfl⟩) ⟨fun a U g mk q => by obtain ⟨q0, q1, qP, qK, qD⟩ := q; exact ⟨q0, q1, qP, va_K.moved (u := U) (U := U.calling g mk a) (Vm.Alike.refl U.vm) qK, qD⟩, va_recv hKc_4 hPc_4 (ci := 10) (q0 := 0) rfl rfl, fun U hU hW => ⟨rfl, by rw [hU], by rw [hU]; exact hPc_4, va_K.moved hW.alike hKc_4, hDc_4.weaken (fun _ _ _ _ => trivial)⟩⟩ rfl rfl hl.1 rfl (lv_room (Nat.le_of_ble_eq_true rfl)) dX11_edgeHolds_37 ⟨Nat.le_of_ble_eq_true rfl, Nat.le_of_ble_eq_true rfl⟩) hS (fun q _ h => hFc_4 q h) hFc_4 (fun r_4 u_4 t_4 H_4 locs_4 ht_4 hvm_4 hw_4 hB_4 hz_4 hk_4 hS_4 => ?_)
      subst hw_4
      obtain ⟨w_4, hP1_4, hD1_4⟩ := hB_4
      rw [ht_4] at hP1_4
      obtain ⟨hP_4, hD_4⟩ := va_join (wr := []) (w1 := [(h0, .inr (10, oX7 (.ref h1) a1_count a1_over a1_there)), (h1, .inl (k0, na1_items, .inl a1_items))]) hP hD [0, 1] [] rfl rfl (by decide) (by decide) hk_4 hFc_4 hP1_4 hD1_4
      have hP_4 := hP_4.sub (ws' := [(h0, .inr (10, oX7 (.ref h1) a1_count a1_over a1_there)), (h1, .inl (k0, na1_items, .inl a1_items))]) [0, 1] rfl
      have hD_4 := hD_4.sub (ws' := [(h0, .inr (10, oX7 (.ref h1) a1_count a1_over a1_there)), (h1, .inl (k0, na1_items, .inl a1_items))]) [0, 1] (by decide) rfl
      clear hPc_4 hDc_4 hKc_4 hFc_4 hP1_4 hD1_4 hk_4 hz_4
      have hPc_5 := hP_4.sub (ws' := []) [] rfl
      have hDc_5 := hD_4.sub (ws' := []) [] (by decide) rfl
      have hKc_5 := hK.sub (tys' := []) [] rfl
      have hFc_5 := va_free (wc := []) hD_4 hS_4 hA [] rfl
      refine va_calli (va_runS (As := [.int r_4]) (rest := []) ⟨hx, hb, hml, hown, ht⟩ (mt_X11_isWordSign l dC dI r_4 _ w_4 H_4.size) (cwS 1 ht (goodS tw_1509 tw_1510 tw_236 gw_X11_isWordSign) rfl rfl rfl (by decide +kernel) ⟨Nat.le_of_ble_eq_true rfl, Nat.le_of_ble_eq_true rfl⟩) ⟨fun a U g mk q => by obtain ⟨q0, q1, qP, qK, qD⟩ := q; exact ⟨q0, q1, qP, va_K.moved (u := U) (U := U.calling g mk a) (Vm.Alike.refl U.vm) qK, qD⟩, fun U hU hW => ⟨rfl, by rw [hU], by rw [hU]; exact hPc_5, va_K.moved hW.alike hKc_5, hDc_5.weaken (fun _ _ _ _ => trivial)⟩⟩ rfl rfl hl.1 rfl (lv_room (Nat.le_of_ble_eq_true rfl)) dX11_edgeHolds_40 ⟨Nat.le_of_ble_eq_true rfl, Nat.le_of_ble_eq_true rfl⟩) hS_4 (fun q _ h => hFc_5 q h) hFc_5 (fun r_5 u_5 t_5 H_5 locs_5 ht_5 hvm_5 hw_5 hB_5 hz_5 hk_5 hS_5 => ?_)
      subst hw_5
      obtain ⟨w_5, hP1_5, hD1_5⟩ := hB_5
      rw [ht_5] at hP1_5
      obtain ⟨hP_5, hD_5⟩ := va_join (wr := [(h0, .inr (10, oX7 (.ref h1) a1_count a1_over a1_there)), (h1, .inl (k0, na1_items, .inl a1_items))]) (w1 := []) hP_4 hD_4 [] [0, 1] rfl rfl (by decide) (by decide) hk_5 hFc_5 hP1_5 hD1_5
      have hP_5 := hP_5.sub (ws' := [(h0, .inr (10, oX7 (.ref h1) a1_count a1_over a1_there)), (h1, .inl (k0, na1_items, .inl a1_items))]) [0, 1] rfl
      have hD_5 := hD_5.sub (ws' := [(h0, .inr (10, oX7 (.ref h1) a1_count a1_over a1_there)), (h1, .inl (k0, na1_items, .inl a1_items))]) [0, 1] (by decide) rfl
      clear hPc_5 hDc_5 hKc_5 hFc_5 hP1_5 hD1_5 hk_5 hz_5
      refine lv_aload_n hx hb dX11_edgeHolds_43 rfl (lv_at hl 1 rfl) ?_
      refine lv_iload_n hx hb dX11_edgeHolds_44 rfl (lv_at hl 2 rfl) ?_
      have hPc_6 := hP_5.sub (ws' := [(h0, .inr (10, oX7 (.ref h1) a1_count a1_over a1_there)), (h1, .inl (k0, na1_items, .inl a1_items))]) [0, 1] rfl
      have hDc_6 := hD_5.sub (ws' := [(h0, .inr (10, oX7 (.ref h1) a1_count a1_over a1_there)), (h1, .inl (k0, na1_items, .inl a1_items))]) [0, 1] (by decide) rfl
      have hKc_6 := hK.sub (tys' := [(k0, .int)]) [0] rfl
      have hFc_6 := va_free (wc := [(h0, .inr (10, oX7 (.ref h1) a1_count a1_over a1_there)), (h1, .inl (k0, na1_items, .inl a1_items))]) hD_5 hS_5 hA [0, 1] rfl
      refine va_calli (va_runV (As := [.int p2]) (rest := [.int r_5]) ⟨hx, hb, hml, hown, ht⟩ (mt_X7_at l dC dI h0 h1 k0 p2 a1_count a1_over a1_there a1_items na1_items _ w_5 H_5.size) (cwV 1 ht (goodV tw_1508 tw_908 tw_909 tw_237 gw_X7_at) rfl rfl rfl (by decide +kernel) ⟨Nat.le_of_ble_eq_true rfl, Nat.le_of_ble_eq_true rfl⟩) ⟨fun a U g mk q => by obtain ⟨q0, q1, qP, qK, qD⟩ := q; exact ⟨q0, q1, qP, va_K.moved (u := U) (U := U.calling g mk a) (Vm.Alike.refl U.vm) qK, qD⟩, va_recv hKc_6 hPc_6 (ci := 10) (q0 := 0) rfl rfl, fun U hU hW => ⟨rfl, by rw [hU], by rw [hU]; exact hPc_6, va_K.moved hW.alike hKc_6, hDc_6.weaken (fun _ _ _ _ => trivial)⟩⟩ rfl rfl hl.1 rfl (lv_room (Nat.le_of_ble_eq_true rfl)) dX11_edgeHolds_45 ⟨Nat.le_of_ble_eq_true rfl, Nat.le_of_ble_eq_true rfl⟩) hS_5 (fun q _ h => hFc_6 q h) hFc_6 (fun r_6 u_6 t_6 H_6 locs_6 ht_6 hvm_6 hw_6 hB_6 hz_6 hk_6 hS_6 => ?_)
      subst hw_6
      obtain ⟨w_6, hP1_6, hD1_6⟩ := hB_6
      rw [ht_6] at hP1_6
      obtain ⟨hP_6, hD_6⟩ := va_join (wr := []) (w1 := [(h0, .inr (10, oX7 (.ref h1) a1_count a1_over a1_there)), (h1, .inl (k0, na1_items, .inl a1_items))]) hP_5 hD_5 [0, 1] [] rfl rfl (by decide) (by decide) hk_6 hFc_6 hP1_6 hD1_6
      have hP_6 := hP_6.sub (ws' := [(h0, .inr (10, oX7 (.ref h1) a1_count a1_over a1_there)), (h1, .inl (k0, na1_items, .inl a1_items))]) [0, 1] rfl
      have hD_6 := hD_6.sub (ws' := [(h0, .inr (10, oX7 (.ref h1) a1_count a1_over a1_there)), (h1, .inl (k0, na1_items, .inl a1_items))]) [0, 1] (by decide) rfl
      clear hPc_6 hDc_6 hKc_6 hFc_6 hP1_6 hD1_6 hk_6 hz_6
      have hPc_7 := hP_6.sub (ws' := []) [] rfl
      have hDc_7 := hD_6.sub (ws' := []) [] (by decide) rfl
      have hKc_7 := hK.sub (tys' := []) [] rfl
      have hFc_7 := va_free (wc := []) hD_6 hS_6 hA [] rfl
      refine va_calli (va_runS (As := [.int r_6]) (rest := [.int r_5]) ⟨hx, hb, hml, hown, ht⟩ (mt_X11_isWordSign l dC dI r_6 _ w_6 H_6.size) (cwS 1 ht (goodS tw_1509 tw_1510 tw_236 gw_X11_isWordSign) rfl rfl rfl (by decide +kernel) ⟨Nat.le_of_ble_eq_true rfl, Nat.le_of_ble_eq_true rfl⟩) ⟨fun a U g mk q => by obtain ⟨q0, q1, qP, qK, qD⟩ := q; exact ⟨q0, q1, qP, va_K.moved (u := U) (U := U.calling g mk a) (Vm.Alike.refl U.vm) qK, qD⟩, fun U hU hW => ⟨rfl, by rw [hU], by rw [hU]; exact hPc_7, va_K.moved hW.alike hKc_7, hDc_7.weaken (fun _ _ _ _ => trivial)⟩⟩ rfl rfl hl.1 rfl (lv_room (Nat.le_of_ble_eq_true rfl)) dX11_edgeHolds_48 ⟨Nat.le_of_ble_eq_true rfl, Nat.le_of_ble_eq_true rfl⟩) hS_6 (fun q _ h => hFc_7 q h) hFc_7 (fun r_7 u_7 t_7 H_7 locs_7 ht_7 hvm_7 hw_7 hB_7 hz_7 hk_7 hS_7 => ?_)
      subst hw_7
      obtain ⟨w_7, hP1_7, hD1_7⟩ := hB_7
      rw [ht_7] at hP1_7
      obtain ⟨hP_7, hD_7⟩ := va_join (wr := [(h0, .inr (10, oX7 (.ref h1) a1_count a1_over a1_there)), (h1, .inl (k0, na1_items, .inl a1_items))]) (w1 := []) hP_6 hD_6 [] [0, 1] rfl rfl (by decide) (by decide) hk_7 hFc_7 hP1_7 hD1_7
      have hP_7 := hP_7.sub (ws' := [(h0, .inr (10, oX7 (.ref h1) a1_count a1_over a1_there)), (h1, .inl (k0, na1_items, .inl a1_items))]) [0, 1] rfl
      have hD_7 := hD_7.sub (ws' := [(h0, .inr (10, oX7 (.ref h1) a1_count a1_over a1_there)), (h1, .inl (k0, na1_items, .inl a1_items))]) [0, 1] (by decide) rfl
      clear hPc_7 hDc_7 hKc_7 hFc_7 hP1_7 hD1_7 hk_7 hz_7
      have k_59 : ∀ (s0_59 : Int32), ∀ (H_b59 : Heap) (locs_b59 : List Loc) (ls_b59 : Array Slot), w_X11_edgeHolds_59 p0 Q s0_59 → va_P (dC, dI) vwCl [(h0, .inr (10, oX7 (.ref h1) a1_count a1_over a1_there)), (h1, .inl (k0, na1_items, .inl a1_items))] H_b59 → va_D A [(h0, .inr (10, oX7 (.ref h1) a1_count a1_over a1_there)), (h1, .inl (k0, na1_items, .inl a1_items))] → va_S A s.heap H_b59 locs_b59 → lv_has ls_b59 4 [(0, .int p0)] → W p l e ({ frames := 1, cells := 0, slots := 0, locals := 21 } : Room) s m ([.int p0, .ref h0, .int p2]).toArray below meth c H_b59 locs_b59 0 0 QQ (F0 m 59 ls_b59 [.int s0_59]) := by
        intro s0_59 H_b59 locs_b59 ls_b59 w_b59 hP_b59 hD_b59 hS_b59 hl_b59
        unfold w_X11_edgeHolds_59 at w_b59
        refine lv_istore_n (lv' := [(3, .int s0_59), (0, .int p0)]) hx hb dX11_edgeHolds_59 rfl hl_b59 (by decide) rfl (fun ls_8 hl_8 => ?_)
        clear hl_b59
        refine lv_iload_n hx hb dX11_edgeHolds_60 rfl (lv_at hl_8 0 rfl) ?_
        refine lv_iload_n hx hb dX11_edgeHolds_61 rfl (lv_at hl_8 1 rfl) ?_
        refine lv_iconst (v := 2) hx hb dX11_edgeHolds_62 (by decide) ?_
        have k_71 : ∀ (s0_71 : Int32) (s1_71 : Int32), ∀ (H_b71 : Heap) (locs_b71 : List Loc) (ls_b71 : Array Slot), w_X11_edgeHolds_71 Q s0_71 s1_71 → va_P (dC, dI) vwCl [(h0, .inr (10, oX7 (.ref h1) a1_count a1_over a1_there)), (h1, .inl (k0, na1_items, .inl a1_items))] H_b71 → va_D A [(h0, .inr (10, oX7 (.ref h1) a1_count a1_over a1_there)), (h1, .inl (k0, na1_items, .inl a1_items))] → va_S A s.heap H_b71 locs_b71 → lv_has ls_b71 4 [] → W p l e ({ frames := 1, cells := 0, slots := 0, locals := 21 } : Room) s m ([.int p0, .ref h0, .int p2]).toArray below meth c H_b71 locs_b71 0 0 QQ (F0 m 71 ls_b71 [.int s0_71, .int s1_71]) := by
          intro s0_71 s1_71 H_b71 locs_b71 ls_b71 w_b71 hP_b71 hD_b71 hS_b71 hl_b71
          unfold w_X11_edgeHolds_71 at w_b71
          have k_79 : ∀ (s0_79 : Int32), ∀ (H_b79 : Heap) (locs_b79 : List Loc) (ls_b79 : Array Slot), w_X11_edgeHolds_79 Q s0_79 → va_P (dC, dI) vwCl [(h0, .inr (10, oX7 (.ref h1) a1_count a1_over a1_there)), (h1, .inl (k0, na1_items, .inl a1_items))] H_b79 → va_D A [(h0, .inr (10, oX7 (.ref h1) a1_count a1_over a1_there)), (h1, .inl (k0, na1_items, .inl a1_items))] → va_S A s.heap H_b79 locs_b79 → lv_has ls_b79 4 [] → W p l e ({ frames := 1, cells := 0, slots := 0, locals := 21 } : Room) s m ([.int p0, .ref h0, .int p2]).toArray below meth c H_b79 locs_b79 0 0 QQ (F0 m 79 ls_b79 [.int s0_79]) := by
            intro s0_79 H_b79 locs_b79 ls_b79 w_b79 hP_b79 hD_b79 hS_b79 hl_b79
            unfold w_X11_edgeHolds_79 at w_b79
            rw [hQQ]
            exact W.zret (v := s0_79) hx hb hr (or_nar w_b79.1) (fun t9 ht9 hW9 => ⟨⟨s0_79, s0_79, rfl, rfl, ⟨w_b79.2, by rw [ht9]; exact hP_b79, hD_b79⟩⟩, hS_b79.F ht9⟩) hS_b79.2.2 dX11_edgeHolds_79
          refine lv_icmp_ne (tgt := 78) hx hb dX11_edgeHolds_71 (by decide) (fun c_9 => ?_) (fun c_9 => ?_)
          · refine lv_iconst (v := 0) hx hb dX11_edgeHolds_78 (by decide) ?_
            exact k_79 0 _ _ _ (w_b71.1 c_9) hP_b71 hD_b71 hS_b71 (lv_sub hl_b71 [] rfl)
          · refine lv_iconst (v := 1) hx hb dX11_edgeHolds_74 (by decide) ?_
            refine lv_goto (tgt := 79) hx hb dX11_edgeHolds_75 (by decide) ?_
            exact k_79 1 _ _ _ (w_b71.2 c_9) hP_b71 hD_b71 hS_b71 (lv_sub hl_b71 [] rfl)
        refine lv_icmp_ne (tgt := 70) hx hb dX11_edgeHolds_63 (by decide) (fun c_10 => ?_) (fun c_10 => ?_)
        · refine lv_iconst (v := 0) hx hb dX11_edgeHolds_70 (by decide) ?_
          exact k_71 0 s0_59 _ _ _ (w_b59.1 c_10) hP_b59 hD_b59 hS_b59 (lv_sub hl_8 [] rfl)
        · refine lv_iconst (v := 1) hx hb dX11_edgeHolds_66 (by decide) ?_
          refine lv_goto (tgt := 71) hx hb dX11_edgeHolds_67 (by decide) ?_
          exact k_71 1 s0_59 _ _ _ (w_b59.2 c_10) hP_b59 hD_b59 hS_b59 (lv_sub hl_8 [] rfl)
      refine lv_icmp_eq (tgt := 58) hx hb dX11_edgeHolds_51 (by decide) (fun c_11 => ?_) (fun c_11 => ?_)
      · refine lv_iconst (v := 0) hx hb dX11_edgeHolds_58 (by decide) ?_
        exact k_59 0 _ _ _ (w_7.1 c_11) hP_7 hD_7 hS_7 (lv_sub hl [0] rfl)
      · refine lv_iconst (v := 1) hx hb dX11_edgeHolds_54 (by decide) ?_
        refine lv_goto (tgt := 59) hx hb dX11_edgeHolds_55 (by decide) ?_
        exact k_59 1 _ _ _ (w_7.2 c_11) hP_7 hD_7 hS_7 (lv_sub hl [0] rfl)
    · refine lv_iload_n hx hb dX11_edgeHolds_19 rfl (lv_at hl 2 rfl) ?_
      refine lv_aload_n hx hb dX11_edgeHolds_20 rfl (lv_at hl 1 rfl) ?_
      refine va_get (D := (dC, dI)) (ci := 10) (v := .int a1_count) (C := RX7) (T := TX7) (N := 4) hx hb ht inX7 hown hK hP 0 rfl rfl 1 (by decide) (ht _ tw_278) (fun _ h9 => h9) rfl dX11_edgeHolds_21 ?_
      have k_32 : ∀ (s0_32 : Int32), ∀ (H_b32 : Heap) (locs_b32 : List Loc) (ls_b32 : Array Slot), w_X11_edgeHolds_32 Q s0_32 → va_P (dC, dI) vwCl [(h0, .inr (10, oX7 (.ref h1) a1_count a1_over a1_there)), (h1, .inl (k0, na1_items, .inl a1_items))] H_b32 → va_D A [(h0, .inr (10, oX7 (.ref h1) a1_count a1_over a1_there)), (h1, .inl (k0, na1_items, .inl a1_items))] → va_S A s.heap H_b32 locs_b32 → lv_has ls_b32 4 [] → W p l e ({ frames := 1, cells := 0, slots := 0, locals := 21 } : Room) s m ([.int p0, .ref h0, .int p2]).toArray below meth c H_b32 locs_b32 0 0 QQ (F0 m 32 ls_b32 [.int s0_32]) := by
        intro s0_32 H_b32 locs_b32 ls_b32 w_b32 hP_b32 hD_b32 hS_b32 hl_b32
        unfold w_X11_edgeHolds_32 at w_b32
        rw [hQQ]
        exact W.zret (v := s0_32) hx hb hr (or_nar w_b32.1) (fun t9 ht9 hW9 => ⟨⟨s0_32, s0_32, rfl, rfl, ⟨w_b32.2, by rw [ht9]; exact hP_b32, hD_b32⟩⟩, hS_b32.F ht9⟩) hS_b32.2.2 dX11_edgeHolds_32
      refine lv_icmp_ne (tgt := 31) hx hb dX11_edgeHolds_24 (by decide) (fun c_12 => ?_) (fun c_12 => ?_)
      · refine lv_iconst (v := 0) hx hb dX11_edgeHolds_31 (by decide) ?_
        exact k_32 0 _ _ _ (((w.1 c_1).2 c_2).1 c_12) hP hD hS (lv_sub hl [] rfl)
      · refine lv_iconst (v := 1) hx hb dX11_edgeHolds_27 (by decide) ?_
        refine lv_goto (tgt := 32) hx hb dX11_edgeHolds_28 (by decide) ?_
        exact k_32 1 _ _ _ (((w.1 c_1).2 c_2).2 c_12) hP hD hS (lv_sub hl [] rfl)
  · refine lv_iload_n hx hb dX11_edgeHolds_4 rfl (lv_at hl 2 rfl) ?_
    have k_13 : ∀ (s0_13 : Int32), ∀ (H_b13 : Heap) (locs_b13 : List Loc) (ls_b13 : Array Slot), w_X11_edgeHolds_13 Q s0_13 → va_P (dC, dI) vwCl [(h0, .inr (10, oX7 (.ref h1) a1_count a1_over a1_there)), (h1, .inl (k0, na1_items, .inl a1_items))] H_b13 → va_D A [(h0, .inr (10, oX7 (.ref h1) a1_count a1_over a1_there)), (h1, .inl (k0, na1_items, .inl a1_items))] → va_S A s.heap H_b13 locs_b13 → lv_has ls_b13 4 [] → W p l e ({ frames := 1, cells := 0, slots := 0, locals := 21 } : Room) s m ([.int p0, .ref h0, .int p2]).toArray below meth c H_b13 locs_b13 0 0 QQ (F0 m 13 ls_b13 [.int s0_13]) := by
      intro s0_13 H_b13 locs_b13 ls_b13 w_b13 hP_b13 hD_b13 hS_b13 hl_b13
      unfold w_X11_edgeHolds_13 at w_b13
      rw [hQQ]
      exact W.zret (v := s0_13) hx hb hr (or_nar w_b13.1) (fun t9 ht9 hW9 => ⟨⟨s0_13, s0_13, rfl, rfl, ⟨w_b13.2, by rw [ht9]; exact hP_b13, hD_b13⟩⟩, hS_b13.F ht9⟩) hS_b13.2.2 dX11_edgeHolds_13
    refine lv_if_ne (tgt := 12) hx hb dX11_edgeHolds_5 (by decide) (fun c_13 => ?_) (fun c_13 => ?_)
    · refine lv_iconst (v := 0) hx hb dX11_edgeHolds_12 (by decide) ?_
      exact k_13 0 _ _ _ ((w.2 c_1).1 c_13) hP hD hS (lv_sub hl [] rfl)
    · refine lv_iconst (v := 1) hx hb dX11_edgeHolds_8 (by decide) ?_
      refine lv_goto (tgt := 13) hx hb dX11_edgeHolds_9 (by decide) ?_
      exact k_13 1 _ _ _ ((w.2 c_1).2 c_13) hP hD hS (lv_sub hl [] rfl)
def w_X3_markEdges_2B (p1 : Int32) (v_subject_count : Int32) (v_subject_items : Nat → Int32) (nv_subject_items : Nat) (Q : (Nat → Bool) → Prop) (K2 : Int32 → (Nat → Bool) → Prop) (l2_2 : Int32) (v_edges_2 : Nat → Bool) : Prop :=
  ((4 ≤ l2_2) → Q  v_edges_2) ∧ ((¬ 4 ≤ l2_2) → w_X11_edgeHolds l2_2 p1 v_subject_count v_subject_items nv_subject_items (fun r_3 => vp_in l2_2 4 ∧ ∀ g_4 : Nat → Bool, g_4 = updB v_edges_2 l2_2.toNatClampNeg (bo r_3) → ∀ x_5 : Int32, x_5 = l2_2 + 1 → K2 x_5 g_4))
def w_X3_markEdges_2 (p1 : Int32) (v_subject_count : Int32) (v_subject_items : Nat → Int32) (nv_subject_items : Nat) (Q : (Nat → Bool) → Prop) : Nat → Int32 → (Nat → Bool) → Prop
  | 0, _, _ => False
  | n9 + 1, l2_2, v_edges_2 => w_X3_markEdges_2B p1 v_subject_count v_subject_items nv_subject_items Q (w_X3_markEdges_2 p1 v_subject_count v_subject_items nv_subject_items Q n9) l2_2 v_edges_2
def w_X3_markEdges (p1 : Int32) (v_edges : Nat → Bool) (v_subject_count : Int32) (v_subject_items : Nat → Int32) (nv_subject_items : Nat) (Q : (Nat → Bool) → Prop) : Prop :=
  ∃ k9 : Nat, w_X3_markEdges_2 p1 v_subject_count v_subject_items nv_subject_items Q k9 0 v_edges
set_option maxHeartbeats 4000000 in
set_option maxRecDepth 100000 in
theorem mt_X3_markEdges (l : Launch) (dC : Nat → ClassId) (dI : Nat → Nat → Nat) (h0 h1 h2 h3 h4 h5 h6 h7 h8 h9 h10 h11 h12 h13 : Nat) (k0 k1 : ClassId) (p1 : Int32) (v_width : Int32) (v_nowCount : Int32) (v_nextCount : Int32) (v_stamp : Int32) (v_stackCount : Int32) (v_edges : Nat → Bool) (v_subject_count : Int32) (v_subject_over : Bool) (v_subject_there : Bool) (v_subject_items : Nat → Int32) (nv_subject_items : Nat) (Q : (Nat → Bool) → Prop) (w : w_X3_markEdges p1 v_edges v_subject_count v_subject_items nv_subject_items Q) (sz : Nat) : Met l yX3_markEdges (WS yX3_markEdges cX3_markEdges 3 none) ({ frames := 2, cells := 0, slots := 0, locals := 44 } : Room) (va_Pc [.ref h0, .int p1] (fun U => U.heap.size = sz ∧ va_P (dC, dI) vwCl [(h0, .inr (6, oX3 (.ref h4) (.ref h2) v_width (.ref h1) (.ref h5) (.ref h6) v_nowCount (.ref h7) (.ref h8) v_nextCount (.ref h9) (.ref h10) v_stamp (.ref h11) (.ref h12) (.ref h13) v_stackCount)), (h1, .inl (k0, 4, .inl (fun q9 => bz (v_edges q9)))), (h2, .inr (10, oX7 (.ref h3) v_subject_count v_subject_over v_subject_there)), (h3, .inl (k1, nv_subject_items, .inl v_subject_items))] U.heap ∧ va_K (dC, dI) vwCl [(k0, .boolean), (k1, .int)] U ∧ va_D (fun _ => True) [(h0, .inr (6, oX3 (.ref h4) (.ref h2) v_width (.ref h1) (.ref h5) (.ref h6) v_nowCount (.ref h7) (.ref h8) v_nextCount (.ref h9) (.ref h10) v_stamp (.ref h11) (.ref h12) (.ref h13) v_stackCount)), (h1, .inl (k0, 4, .inl (fun q9 => bz (v_edges q9)))), (h2, .inr (10, oX7 (.ref h3) v_subject_count v_subject_over v_subject_there)), (h3, .inl (k1, nv_subject_items, .inl v_subject_items))] ∧ EX U)) (va_Qv (fun (u : Nat) => u = 0) (fun (_ : Nat) (t : State) => ∃ (ov_edges : Nat → Bool), (Q ov_edges) ∧ va_P (dC, dI) vwCl [(h0, .inr (6, oX3 (.ref h4) (.ref h2) v_width (.ref h1) (.ref h5) (.ref h6) v_nowCount (.ref h7) (.ref h8) v_nextCount (.ref h9) (.ref h10) v_stamp (.ref h11) (.ref h12) (.ref h13) v_stackCount)), (h1, .inl (k0, 4, .inl (fun q9 => bz (ov_edges q9)))), (h2, .inr (10, oX7 (.ref h3) v_subject_count v_subject_over v_subject_there)), (h3, .inl (k1, nv_subject_items, .inl v_subject_items))] t.heap ∧ va_D (va_A [(h0, .inr (6, oX3 (.ref h4) (.ref h2) v_width (.ref h1) (.ref h5) (.ref h6) v_nowCount (.ref h7) (.ref h8) v_nextCount (.ref h9) (.ref h10) v_stamp (.ref h11) (.ref h12) (.ref h13) v_stackCount)), (h1, .inl (k0, 4, .inl (fun q9 => bz (v_edges q9)))), (h2, .inr (10, oX7 (.ref h3) v_subject_count v_subject_over v_subject_there)), (h3, .inl (k1, nv_subject_items, .inl v_subject_items))] sz) [(h0, .inr (6, oX3 (.ref h4) (.ref h2) v_width (.ref h1) (.ref h5) (.ref h6) v_nowCount (.ref h7) (.ref h8) v_nextCount (.ref h9) (.ref h10) v_stamp (.ref h11) (.ref h12) (.ref h13) v_stackCount)), (h1, .inl (k0, 4, .inl (fun q9 => bz (ov_edges q9)))), (h2, .inr (10, oX7 (.ref h3) v_subject_count v_subject_over v_subject_there)), (h3, .inl (k1, nv_subject_items, .inl v_subject_items))]) (va_A [(h0, .inr (6, oX3 (.ref h4) (.ref h2) v_width (.ref h1) (.ref h5) (.ref h6) v_nowCount (.ref h7) (.ref h8) v_nextCount (.ref h9) (.ref h10) v_stamp (.ref h11) (.ref h12) (.ref h13) v_stackCount)), (h1, .inl (k0, 4, .inl (fun q9 => bz (v_edges q9)))), (h2, .inr (10, oX7 (.ref h3) v_subject_count v_subject_over v_subject_there)), (h3, .inl (k1, nv_subject_items, .inl v_subject_items))] sz)) 0 0 (va_A [(h0, .inr (6, oX3 (.ref h4) (.ref h2) v_width (.ref h1) (.ref h5) (.ref h6) v_nowCount (.ref h7) (.ref h8) v_nextCount (.ref h9) (.ref h10) v_stamp (.ref h11) (.ref h12) (.ref h13) v_stackCount)), (h1, .inl (k0, 4, .inl (fun q9 => bz (v_edges q9)))), (h2, .inr (10, oX7 (.ref h3) v_subject_count v_subject_over v_subject_there)), (h3, .inl (k1, nv_subject_items, .inl v_subject_items))] sz) := by
  refine Met.ofW (cc := cX3_markEdges) (maxL := 3) (ret := none) (by decide) rfl ?_
  intro p e s m args below meth c s₁ B hml hv
  obtain ⟨rfl, hsz, hP, hK, hD0, hE⟩ := hv
  have hx := B.exec
  have hb := B.bytes
  have hr := B.returns
  have hts := atoms_spec (ws := WS yX3_markEdges cX3_markEdges 3 none) B.pre
  have ht : ∀ w ∈ TW, w.before _ s = true := fun w h => hts w (List.mem_cons_of_mem _ h)
  have hown : s.vm.findClass "PatternWorkshop$Parallel" = some m.cls := findClass_of_methodNamed B.named
  have hlocks := B.notSynchronized
  subst hsz
  have hD := hD0.self (sz := s.heap.size)
  generalize hAe : va_A [(h0, .inr (6, oX3 (.ref h4) (.ref h2) v_width (.ref h1) (.ref h5) (.ref h6) v_nowCount (.ref h7) (.ref h8) v_nextCount (.ref h9) (.ref h10) v_stamp (.ref h11) (.ref h12) (.ref h13) v_stackCount)), (h1, .inl (k0, 4, .inl (fun q9 => bz (v_edges q9)))), (h2, .inr (10, oX7 (.ref h3) v_subject_count v_subject_over v_subject_there)), (h3, .inl (k1, nv_subject_items, .inl v_subject_items))] s.heap.size = A at hD ⊢
  have hA : ∀ q : Nat, s.heap.size ≤ q → A q := fun q h => by rw [← hAe]; exact Or.inr h
  have hS : va_S A s.heap s.heap [] := va_S.rf
  have hP : va_P (dC, dI) vwCl [(h0, .inr (6, oX3 (.ref h4) (.ref h2) v_width (.ref h1) (.ref h5) (.ref h6) v_nowCount (.ref h7) (.ref h8) v_nextCount (.ref h9) (.ref h10) v_stamp (.ref h11) (.ref h12) (.ref h13) v_stackCount)), (h1, .inl (k0, 4, .inl (fun q9 => bz (v_edges q9)))), (h2, .inr (10, oX7 (.ref h3) v_subject_count v_subject_over v_subject_there)), (h3, .inl (k1, nv_subject_items, .inl v_subject_items))] s.heap := hP
  have hl := lv_entry ([.ref h0, .int p1]) (n := 3) (Nat.le_of_ble_eq_true rfl)
  rw [lg_entry_eq]
  generalize (lg_sl ([.ref h0, .int p1]) ++ List.replicate (3 - (lg_sl ([.ref h0, .int p1])).length) Slot.unset).toArray = ls at hl ⊢
  have hl : lv_has ls 3 [(0, .ref h0), (1, .int p1)] := hl
  clear hD0
  obtain ⟨QQ, hQQ⟩ : ∃ QQ, QQ = MQ below (va_Qv (fun (u : Nat) => u = 0) (fun (_ : Nat) (t : State) => ∃ (ov_edges : Nat → Bool), (Q ov_edges) ∧ va_P (dC, dI) vwCl [(h0, .inr (6, oX3 (.ref h4) (.ref h2) v_width (.ref h1) (.ref h5) (.ref h6) v_nowCount (.ref h7) (.ref h8) v_nextCount (.ref h9) (.ref h10) v_stamp (.ref h11) (.ref h12) (.ref h13) v_stackCount)), (h1, .inl (k0, 4, .inl (fun q9 => bz (ov_edges q9)))), (h2, .inr (10, oX7 (.ref h3) v_subject_count v_subject_over v_subject_there)), (h3, .inl (k1, nv_subject_items, .inl v_subject_items))] t.heap ∧ va_D A [(h0, .inr (6, oX3 (.ref h4) (.ref h2) v_width (.ref h1) (.ref h5) (.ref h6) v_nowCount (.ref h7) (.ref h8) v_nextCount (.ref h9) (.ref h10) v_stamp (.ref h11) (.ref h12) (.ref h13) v_stackCount)), (h1, .inl (k0, 4, .inl (fun q9 => bz (ov_edges q9)))), (h2, .inr (10, oX7 (.ref h3) v_subject_count v_subject_over v_subject_there)), (h3, .inl (k1, nv_subject_items, .inl v_subject_items))]) A) ([.ref h0, .int p1]).toArray s 0 0 A := ⟨_, rfl⟩
  show W p l e ({ frames := 2, cells := 0, slots := 0, locals := 44 } : Room) s m ([.ref h0, .int p1]).toArray below meth c s.heap [] 0 0 (MQ below (va_Qv (fun (u : Nat) => u = 0) (fun (_ : Nat) (t : State) => ∃ (ov_edges : Nat → Bool), (Q ov_edges) ∧ va_P (dC, dI) vwCl [(h0, .inr (6, oX3 (.ref h4) (.ref h2) v_width (.ref h1) (.ref h5) (.ref h6) v_nowCount (.ref h7) (.ref h8) v_nextCount (.ref h9) (.ref h10) v_stamp (.ref h11) (.ref h12) (.ref h13) v_stackCount)), (h1, .inl (k0, 4, .inl (fun q9 => bz (ov_edges q9)))), (h2, .inr (10, oX7 (.ref h3) v_subject_count v_subject_over v_subject_there)), (h3, .inl (k1, nv_subject_items, .inl v_subject_items))] t.heap ∧ va_D A [(h0, .inr (6, oX3 (.ref h4) (.ref h2) v_width (.ref h1) (.ref h5) (.ref h6) v_nowCount (.ref h7) (.ref h8) v_nextCount (.ref h9) (.ref h10) v_stamp (.ref h11) (.ref h12) (.ref h13) v_stackCount)), (h1, .inl (k0, 4, .inl (fun q9 => bz (ov_edges q9)))), (h2, .inr (10, oX7 (.ref h3) v_subject_count v_subject_over v_subject_there)), (h3, .inl (k1, nv_subject_items, .inl v_subject_items))]) A) ([.ref h0, .int p1]).toArray s 0 0 A) (F0 m 0 ls [])
  rw [← hQQ]
  unfold w_X3_markEdges at w
  refine lv_iconst (v := 0) hx hb dX3_markEdges_0 (by decide) ?_
  refine lv_istore_n (lv' := [(2, .int 0), (0, .ref h0), (1, .int p1)]) hx hb dX3_markEdges_1 rfl hl (by decide) rfl (fun ls_1 hl_1 => ?_)
  clear hl
  have k_2 : ∀ n_2 : Nat, ∀ (l2_2 : Int32) (v_edges_2 : Nat → Bool), ∀ (H_b2 : Heap) (locs_b2 : List Loc) (ls_b2 : Array Slot), w_X3_markEdges_2 p1 v_subject_count v_subject_items nv_subject_items Q n_2 l2_2 v_edges_2 → va_P (dC, dI) vwCl [(h0, .inr (6, oX3 (.ref h4) (.ref h2) v_width (.ref h1) (.ref h5) (.ref h6) v_nowCount (.ref h7) (.ref h8) v_nextCount (.ref h9) (.ref h10) v_stamp (.ref h11) (.ref h12) (.ref h13) v_stackCount)), (h1, .inl (k0, 4, .inl (fun q9 => bz (v_edges_2 q9)))), (h2, .inr (10, oX7 (.ref h3) v_subject_count v_subject_over v_subject_there)), (h3, .inl (k1, nv_subject_items, .inl v_subject_items))] H_b2 → va_D A [(h0, .inr (6, oX3 (.ref h4) (.ref h2) v_width (.ref h1) (.ref h5) (.ref h6) v_nowCount (.ref h7) (.ref h8) v_nextCount (.ref h9) (.ref h10) v_stamp (.ref h11) (.ref h12) (.ref h13) v_stackCount)), (h1, .inl (k0, 4, .inl (fun q9 => bz (v_edges_2 q9)))), (h2, .inr (10, oX7 (.ref h3) v_subject_count v_subject_over v_subject_there)), (h3, .inl (k1, nv_subject_items, .inl v_subject_items))] → va_S A s.heap H_b2 locs_b2 → lv_has ls_b2 3 [(0, .ref h0), (1, .int p1), (2, .int l2_2)] → W p l e ({ frames := 2, cells := 0, slots := 0, locals := 44 } : Room) s m ([.ref h0, .int p1]).toArray below meth c H_b2 locs_b2 0 0 QQ (F0 m 2 ls_b2 []) := by
    intro n_2
    induction n_2 with
    | zero =>
      intro l2_2 v_edges_2 H_b2 locs_b2 ls_b2 w_b2 hP_b2 hD_b2 hS_b2 hl_b2
      exact False.elim (by unfold w_X3_markEdges_2 at w_b2; exact w_b2)
    | succ n_2 ih_2 =>
      intro l2_2 v_edges_2 H_b2 locs_b2 ls_b2 w_b2 hP_b2 hD_b2 hS_b2 hl_b2
      unfold w_X3_markEdges_2 at w_b2
      unfold w_X3_markEdges_2B at w_b2
      refine lv_iload_n hx hb dX3_markEdges_2 rfl (lv_at hl_b2 2 rfl) ?_
      refine lv_aload_n hx hb dX3_markEdges_3 rfl (lv_at hl_b2 0 rfl) ?_
      refine va_get (D := (dC, dI)) (ci := 6) (v := .ref h1) (C := RX3) (T := TX3) (N := 17) hx hb ht inX3 hown hK hP_b2 0 rfl rfl 3 (by decide) (ht _ tw_622) (fun _ h9 => h9) rfl dX3_markEdges_4 ?_
      refine va_alen hx hb hK hP_b2 1 0 rfl rfl (v := 4) (show Int32.ofNat 4 = 4 by decide) dX3_markEdges_7 ?_
      refine lv_icmp_ge (tgt := 32) hx hb dX3_markEdges_8 (by decide) (fun c_2 => ?_) (fun c_2 => ?_)
      · rw [hQQ]
        exact W.vret hx hb hr (fun t9 ht9 hW9 => ⟨⟨0, rfl, rfl, ⟨v_edges_2, w_b2.1 c_2, by rw [ht9]; exact hP_b2, hD_b2⟩⟩, hS_b2.F ht9⟩) hS_b2.2.2 dX3_markEdges_32
      · refine lv_aload_n hx hb dX3_markEdges_11 rfl (lv_at hl_b2 0 rfl) ?_
        refine va_get (D := (dC, dI)) (ci := 6) (v := .ref h1) (C := RX3) (T := TX3) (N := 17) hx hb ht inX3 hown hK hP_b2 0 rfl rfl 3 (by decide) (ht _ tw_622) (fun _ h9 => h9) rfl dX3_markEdges_12 ?_
        refine lv_iload_n hx hb dX3_markEdges_15 rfl (lv_at hl_b2 2 rfl) ?_
        refine lv_iload_n hx hb dX3_markEdges_16 rfl (lv_at hl_b2 2 rfl) ?_
        refine lv_aload_n hx hb dX3_markEdges_17 rfl (lv_at hl_b2 0 rfl) ?_
        refine va_get (D := (dC, dI)) (ci := 6) (v := .ref h2) (C := RX3) (T := TX3) (N := 17) hx hb ht inX3 hown hK hP_b2 0 rfl rfl 1 (by decide) (ht _ tw_620) (fun _ h9 => h9) rfl dX3_markEdges_18 ?_
        refine lv_iload_n hx hb dX3_markEdges_21 rfl (lv_at hl_b2 1 rfl) ?_
        have hPc_3 := hP_b2.sub (ws' := [(h2, .inr (10, oX7 (.ref h3) v_subject_count v_subject_over v_subject_there)), (h3, .inl (k1, nv_subject_items, .inl v_subject_items))]) [2, 3] rfl
        have hDc_3 := hD_b2.sub (ws' := [(h2, .inr (10, oX7 (.ref h3) v_subject_count v_subject_over v_subject_there)), (h3, .inl (k1, nv_subject_items, .inl v_subject_items))]) [2, 3] (by decide) rfl
        have hKc_3 := hK.sub (tys' := [(k1, .int)]) [1] rfl
        have hFc_3 := va_free (wc := [(h2, .inr (10, oX7 (.ref h3) v_subject_count v_subject_over v_subject_there)), (h3, .inl (k1, nv_subject_items, .inl v_subject_items))]) hD_b2 hS_b2 hA [2, 3] rfl
        refine va_calli (va_runSN (As := [.int l2_2, .ref h2, .int p1]) (rest := [.int l2_2, .ref h1]) ⟨hx, hb, hml, hown, ht⟩ (mt_X11_edgeHolds l dC dI h2 h3 k1 l2_2 p1 v_subject_count v_subject_over v_subject_there v_subject_items nv_subject_items _ (w_b2.2 c_2) H_b2.size) ⟨va_cnB 3 ht gw_X11_edgeHolds rfl rfl rfl (hE.2.2.2.2.2.2.2.2.2.2.2.2.2.2.2.2.2.2.2.1) (ht _ tw_236) (by decide +kernel) ⟨Nat.le_of_ble_eq_true rfl, Nat.le_of_ble_eq_true rfl⟩, ht _ tw_1506, trivial⟩ ⟨fun a U g mk q => by obtain ⟨q0, q1, qP, qK, qD⟩ := q; exact ⟨q0, q1, qP, va_K.moved (u := U) (U := U.calling g mk a) (Vm.Alike.refl U.vm) qK, qD⟩, fun U hU hW => ⟨rfl, by rw [hU], by rw [hU]; exact hPc_3, va_K.moved hW.alike hKc_3, hDc_3.weaken (fun _ _ _ _ => trivial)⟩⟩ rfl rfl hl_b2.1 rfl (lv_room (Nat.le_of_ble_eq_true rfl)) dX3_markEdges_22 ⟨Nat.le_of_ble_eq_true rfl, Nat.le_of_ble_eq_true rfl⟩) hS_b2 (fun q _ h => hFc_3 q h) hFc_3 (fun r_3 u_3 t_3 H_3 locs_3 ht_3 hvm_3 hw_3 hB_3 hz_3 hk_3 hS_3 => ?_)
        subst hw_3
        obtain ⟨w_3, hP1_3, hD1_3⟩ := hB_3
        rw [ht_3] at hP1_3
        obtain ⟨hP_3, hD_3⟩ := va_join (wr := [(h0, .inr (6, oX3 (.ref h4) (.ref h2) v_width (.ref h1) (.ref h5) (.ref h6) v_nowCount (.ref h7) (.ref h8) v_nextCount (.ref h9) (.ref h10) v_stamp (.ref h11) (.ref h12) (.ref h13) v_stackCount)), (h1, .inl (k0, 4, .inl (fun q9 => bz (v_edges_2 q9))))]) (w1 := [(h2, .inr (10, oX7 (.ref h3) v_subject_count v_subject_over v_subject_there)), (h3, .inl (k1, nv_subject_items, .inl v_subject_items))]) hP_b2 hD_b2 [2, 3] [0, 1] rfl rfl (by decide) (by decide) hk_3 hFc_3 hP1_3 hD1_3
        have hP_3 := hP_3.sub (ws' := [(h0, .inr (6, oX3 (.ref h4) (.ref h2) v_width (.ref h1) (.ref h5) (.ref h6) v_nowCount (.ref h7) (.ref h8) v_nextCount (.ref h9) (.ref h10) v_stamp (.ref h11) (.ref h12) (.ref h13) v_stackCount)), (h1, .inl (k0, 4, .inl (fun q9 => bz (v_edges_2 q9)))), (h2, .inr (10, oX7 (.ref h3) v_subject_count v_subject_over v_subject_there)), (h3, .inl (k1, nv_subject_items, .inl v_subject_items))]) [0, 1, 2, 3] rfl
        have hD_3 := hD_3.sub (ws' := [(h0, .inr (6, oX3 (.ref h4) (.ref h2) v_width (.ref h1) (.ref h5) (.ref h6) v_nowCount (.ref h7) (.ref h8) v_nextCount (.ref h9) (.ref h10) v_stamp (.ref h11) (.ref h12) (.ref h13) v_stackCount)), (h1, .inl (k0, 4, .inl (fun q9 => bz (v_edges_2 q9)))), (h2, .inr (10, oX7 (.ref h3) v_subject_count v_subject_over v_subject_there)), (h3, .inl (k1, nv_subject_items, .inl v_subject_items))]) [0, 1, 2, 3] (by decide) rfl
        clear hPc_3 hDc_3 hKc_3 hFc_3 hP1_3 hD1_3 hk_3 hz_3
        refine va_zast hx hb hK hP_3 hD_3 hS_3 1 0 rfl rfl (i := l2_2) w_3.1 dX3_markEdges_25 (fun H_4 locs_4 hP_4 hD_4 hS_4 => ?_)
        obtain ⟨g_4, hg_4⟩ : ∃ g : Nat → Bool, g = updB v_edges_2 l2_2.toNatClampNeg (bo r_3) := ⟨_, rfl⟩
        rw [zupd] at hP_4 hD_4
        have hP_4 : va_P (dC, dI) vwCl [(h0, .inr (6, oX3 (.ref h4) (.ref h2) v_width (.ref h1) (.ref h5) (.ref h6) v_nowCount (.ref h7) (.ref h8) v_nextCount (.ref h9) (.ref h10) v_stamp (.ref h11) (.ref h12) (.ref h13) v_stackCount)), (h1, .inl (k0, 4, .inl (fun q9 => bz (g_4 q9)))), (h2, .inr (10, oX7 (.ref h3) v_subject_count v_subject_over v_subject_there)), (h3, .inl (k1, nv_subject_items, .inl v_subject_items))] H_4 := by rw [hg_4]; exact hP_4
        have hD_4 : va_D A [(h0, .inr (6, oX3 (.ref h4) (.ref h2) v_width (.ref h1) (.ref h5) (.ref h6) v_nowCount (.ref h7) (.ref h8) v_nextCount (.ref h9) (.ref h10) v_stamp (.ref h11) (.ref h12) (.ref h13) v_stackCount)), (h1, .inl (k0, 4, .inl (fun q9 => bz (g_4 q9)))), (h2, .inr (10, oX7 (.ref h3) v_subject_count v_subject_over v_subject_there)), (h3, .inl (k1, nv_subject_items, .inl v_subject_items))] := by rw [hg_4]; exact hD_4
        obtain ⟨x_5, ex_5⟩ : ∃ y : Int32, y = l2_2 + 1 := ⟨_, rfl⟩
        refine lv_iinc (v := x_5) (lv' := [(2, .int x_5), (0, .ref h0), (1, .int p1)]) hx hb dX3_markEdges_26 hl_b2 (k := 2) rfl ex_5.symm (by decide) rfl (fun ls_5 hl_5 => ?_)
        refine lv_goto (tgt := 2) hx hb dX3_markEdges_29 (by decide) ?_
        exact ih_2 x_5 g_4 _ _ _ (w_3.2 g_4 hg_4 x_5 ex_5) hP_4 hD_4 hS_4 (lv_sub hl_5 [1, 2, 0] rfl)
  obtain ⟨n_6, w_6⟩ := w
  exact k_2 n_6 0 v_edges _ _ _ w_6 hP hD hS (lv_sub hl_1 [1, 2, 0] rfl)
