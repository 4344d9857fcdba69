def w_X5_takes (p1 : Int32) (p2 : Int32) (v_count : Int32) (v_subjects : Nat → Int32) (v_tree_count : Int32) (v_tree_ranges : Int32) (v_tree_sort : Nat → Int32) (v_tree_value : Nat → Int32) (v_tree_low : Nat → Int32) (v_tree_high : Nat → Int32) (v_tree_withinCase : Nat → Bool) (v_tree_rangeBegin : Nat → Int32) (v_tree_rangeEnd : Nat → Int32) (Q : Int32 → Prop) : Prop :=
  w_X5_subjectOf p1 v_count v_subjects (fun r_1 => w_X10_takes r_1 p2 v_tree_count v_tree_ranges v_tree_sort v_tree_value v_tree_low v_tree_high v_tree_withinCase v_tree_rangeBegin v_tree_rangeEnd (fun r_2 => (r_2 = 0 ∨ r_2 = 1) ∧ Q r_2))
set_option maxHeartbeats 4000000 in
set_option maxRecDepth 100000 in
theorem mt_X5_takes (l : Launch) (dC : Nat → ClassId) (dI : Nat → Nat → Nat) (h0 h1 h2 h3 h4 h5 h6 h7 h8 h9 h10 h11 h12 h13 h14 h15 h16 h17 h18 h19 h20 h21 : Nat) (k0 k1 k2 k3 k4 k5 k6 k7 : ClassId) (p1 : Int32) (p2 : Int32) (v_start : Int32) (v_count : Int32) (v_subjects : Nat → Int32) (v_tree_there : Bool) (v_tree_count : Int32) (v_tree_captures : Int32) (v_tree_ranges : Int32) (v_tree_sort : Nat → Int32) (v_tree_value : Nat → Int32) (v_tree_low : Nat → Int32) (v_tree_high : Nat → Int32) (v_tree_withinCase : Nat → Bool) (v_tree_rangeBegin : Nat → Int32) (v_tree_rangeEnd : Nat → Int32) (Q : Int32 → Prop) (w : w_X5_takes p1 p2 v_count v_subjects v_tree_count v_tree_ranges v_tree_sort v_tree_value v_tree_low v_tree_high v_tree_withinCase v_tree_rangeBegin v_tree_rangeEnd Q) (sz : Nat) : Met l yX5_takes (WS yX5_takes cX5_takes 3 (some (.boolean))) ({ frames := 2, cells := 0, slots := 0, locals := 46 } : Room) (va_Pc [.ref h0, .int p1, .int p2] (fun U => U.heap.size = sz ∧ va_P (dC, dI) vwCl [(h0, .inr (8, oX5 v_start v_count (.ref h2) (.ref h10) (.ref h1) (.ref h11) (.ref h12))), (h1, .inl (k0, 512, .inl v_subjects)), (h2, .inr (13, oX10 v_tree_there v_tree_count v_tree_captures v_tree_ranges (.ref h3) (.ref h13) (.ref h14) (.ref h15) (.ref h16) (.ref h17) (.ref h4) (.ref h5) (.ref h6) (.ref h18) (.ref h19) (.ref h20) (.ref h7) (.ref h21) (.ref h8) (.ref h9))), (h3, .inl (k1, 256, .inl v_tree_sort)), (h4, .inl (k2, 256, .inl v_tree_value)), (h5, .inl (k3, 256, .inl v_tree_low)), (h6, .inl (k4, 256, .inl v_tree_high)), (h7, .inl (k5, 256, .inl (fun q9 => bz (v_tree_withinCase q9)))), (h8, .inl (k6, 512, .inl v_tree_rangeBegin)), (h9, .inl (k7, 512, .inl v_tree_rangeEnd))] U.heap ∧ va_K (dC, dI) vwCl [(k0, .int), (k1, .int), (k2, .int), (k3, .int), (k4, .int), (k5, .boolean), (k6, .int), (k7, .int)] U ∧ va_D (fun _ => True) [(h0, .inr (8, oX5 v_start v_count (.ref h2) (.ref h10) (.ref h1) (.ref h11) (.ref h12))), (h1, .inl (k0, 512, .inl v_subjects)), (h2, .inr (13, oX10 v_tree_there v_tree_count v_tree_captures v_tree_ranges (.ref h3) (.ref h13) (.ref h14) (.ref h15) (.ref h16) (.ref h17) (.ref h4) (.ref h5) (.ref h6) (.ref h18) (.ref h19) (.ref h20) (.ref h7) (.ref h21) (.ref h8) (.ref h9))), (h3, .inl (k1, 256, .inl v_tree_sort)), (h4, .inl (k2, 256, .inl v_tree_value)), (h5, .inl (k3, 256, .inl v_tree_low)), (h6, .inl (k4, 256, .inl v_tree_high)), (h7, .inl (k5, 256, .inl (fun q9 => bz (v_tree_withinCase q9)))), (h8, .inl (k6, 512, .inl v_tree_rangeBegin)), (h9, .inl (k7, 512, .inl v_tree_rangeEnd))] ∧ EX U)) (va_Qi (fun (r u : Int32) => r = u) (fun (u : Int32) (t : State) => (Q u) ∧ va_P (dC, dI) vwCl [(h0, .inr (8, oX5 v_start v_count (.ref h2) (.ref h10) (.ref h1) (.ref h11) (.ref h12))), (h1, .inl (k0, 512, .inl v_subjects)), (h2, .inr (13, oX10 v_tree_there v_tree_count v_tree_captures v_tree_ranges (.ref h3) (.ref h13) (.ref h14) (.ref h15) (.ref h16) (.ref h17) (.ref h4) (.ref h5) (.ref h6) (.ref h18) (.ref h19) (.ref h20) (.ref h7) (.ref h21) (.ref h8) (.ref h9))), (h3, .inl (k1, 256, .inl v_tree_sort)), (h4, .inl (k2, 256, .inl v_tree_value)), (h5, .inl (k3, 256, .inl v_tree_low)), (h6, .inl (k4, 256, .inl v_tree_high)), (h7, .inl (k5, 256, .inl (fun q9 => bz (v_tree_withinCase q9)))), (h8, .inl (k6, 512, .inl v_tree_rangeBegin)), (h9, .inl (k7, 512, .inl v_tree_rangeEnd))] t.heap ∧ va_D (va_A [(h0, .inr (8, oX5 v_start v_count (.ref h2) (.ref h10) (.ref h1) (.ref h11) (.ref h12))), (h1, .inl (k0, 512, .inl v_subjects)), (h2, .inr (13, oX10 v_tree_there v_tree_count v_tree_captures v_tree_ranges (.ref h3) (.ref h13) (.ref h14) (.ref h15) (.ref h16) (.ref h17) (.ref h4) (.ref h5) (.ref h6) (.ref h18) (.ref h19) (.ref h20) (.ref h7) (.ref h21) (.ref h8) (.ref h9))), (h3, .inl (k1, 256, .inl v_tree_sort)), (h4, .inl (k2, 256, .inl v_tree_value)), (h5, .inl (k3, 256, .inl v_tree_low)), (h6, .inl (k4, 256, .inl v_tree_high)), (h7, .inl (k5, 256, .inl (fun q9 => bz (v_tree_withinCase q9)))), (h8, .inl (k6, 512, .inl v_tree_rangeBegin)), (h9, .inl (k7, 512, .inl v_tree_rangeEnd))] sz) [(h0, .inr (8, oX5 v_start v_count (.ref h2) (.ref h10) (.ref h1) (.ref h11) (.ref h12))), (h1, .inl (k0, 512, .inl v_subjects)), (h2, .inr (13, oX10 v_tree_there v_tree_count v_tree_captures v_tree_ranges (.ref h3) (.ref h13) (.ref h14) (.ref h15) (.ref h16) (.ref h17) (.ref h4) (.ref h5) (.ref h6) (.ref h18) (.ref h19) (.ref h20) (.ref h7) (.ref h21) (.ref h8) (.ref h9))), (h3, .inl (k1, 256, .inl v_tree_sort)), (h4, .inl (k2, 256, .inl v_tree_value)), (h5, .inl (k3, 256, .inl v_tree_low)), (h6, .inl (k4, 256, .inl v_tree_high)), (h7, .inl (k5, 256, .inl (fun q9 => bz (v_tree_withinCase q9)))), (h8, .inl (k6, 512, .inl v_tree_rangeBegin)), (h9, .inl (k7, 512, .inl v_tree_rangeEnd))]) (va_A [(h0, .inr (8, oX5 v_start v_count (.ref h2) (.ref h10) (.ref h1) (.ref h11) (.ref h12))), (h1, .inl (k0, 512, .inl v_subjects)), (h2, .inr (13, oX10 v_tree_there v_tree_count v_tree_captures v_tree_ranges (.ref h3) (.ref h13) (.ref h14) (.ref h15) (.ref h16) (.ref h17) (.ref h4) (.ref h5) (.ref h6) (.ref h18) (.ref h19) (.ref h20) (.ref h7) (.ref h21) (.ref h8) (.ref h9))), (h3, .inl (k1, 256, .inl v_tree_sort)), (h4, .inl (k2, 256, .inl v_tree_value)), (h5, .inl (k3, 256, .inl v_tree_low)), (h6, .inl (k4, 256, .inl v_tree_high)), (h7, .inl (k5, 256, .inl (fun q9 => bz (v_tree_withinCase q9)))), (h8, .inl (k6, 512, .inl v_tree_rangeBegin)), (h9, .inl (k7, 512, .inl v_tree_rangeEnd))] sz)) 0 0 (va_A [(h0, .inr (8, oX5 v_start v_count (.ref h2) (.ref h10) (.ref h1) (.ref h11) (.ref h12))), (h1, .inl (k0, 512, .inl v_subjects)), (h2, .inr (13, oX10 v_tree_there v_tree_count v_tree_captures v_tree_ranges (.ref h3) (.ref h13) (.ref h14) (.ref h15) (.ref h16) (.ref h17) (.ref h4) (.ref h5) (.ref h6) (.ref h18) (.ref h19) (.ref h20) (.ref h7) (.ref h21) (.ref h8) (.ref h9))), (h3, .inl (k1, 256, .inl v_tree_sort)), (h4, .inl (k2, 256, .inl v_tree_value)), (h5, .inl (k3, 256, .inl v_tree_low)), (h6, .inl (k4, 256, .inl v_tree_high)), (h7, .inl (k5, 256, .inl (fun q9 => bz (v_tree_withinCase q9)))), (h8, .inl (k6, 512, .inl v_tree_rangeBegin)), (h9, .inl (k7, 512, .inl v_tree_rangeEnd))] sz) := by
  refine Met.ofW (cc := cX5_takes) (maxL := 3) (ret := (some (.boolean))) (by decide) rfl ?_
  intro p e s m args below meth c s₁ B hml hv
  obtain ⟨rfl, hsz, hP, hK, hD0, hE⟩ := hv
  have hx := B.exec
  have hb := B.bytes
  have hr := B.returns
  have hts := atoms_spec (ws := WS yX5_takes cX5_takes 3 (some (.boolean))) B.pre
  have ht : ∀ w ∈ TW, w.before _ s = true := fun w h => hts w (List.mem_cons_of_mem _ h)
  have hown : s.vm.findClass "PatternWorkshop$Program" = some m.cls := findClass_of_methodNamed B.named
  have hlocks := B.notSynchronized
  subst hsz
  have hD := hD0.self (sz := s.heap.size)
  generalize hAe : va_A [(h0, .inr (8, oX5 v_start v_count (.ref h2) (.ref h10) (.ref h1) (.ref h11) (.ref h12))), (h1, .inl (k0, 512, .inl v_subjects)), (h2, .inr (13, oX10 v_tree_there v_tree_count v_tree_captures v_tree_ranges (.ref h3) (.ref h13) (.ref h14) (.ref h15) (.ref h16) (.ref h17) (.ref h4) (.ref h5) (.ref h6) (.ref h18) (.ref h19) (.ref h20) (.ref h7) (.ref h21) (.ref h8) (.ref h9))), (h3, .inl (k1, 256, .inl v_tree_sort)), (h4, .inl (k2, 256, .inl v_tree_value)), (h5, .inl (k3, 256, .inl v_tree_low)), (h6, .inl (k4, 256, .inl v_tree_high)), (h7, .inl (k5, 256, .inl (fun q9 => bz (v_tree_withinCase q9)))), (h8, .inl (k6, 512, .inl v_tree_rangeBegin)), (h9, .inl (k7, 512, .inl v_tree_rangeEnd))] s.heap.size = A at hD ⊢
  have hA : ∀ q : Nat, s.heap.size ≤ q → A q := fun q h => by rw [← hAe]; exact Or.inr h
  have hS : va_S A s.heap s.heap [] := va_S.rf
  have hP : va_P (dC, dI) vwCl [(h0, .inr (8, oX5 v_start v_count (.ref h2) (.ref h10) (.ref h1) (.ref h11) (.ref h12))), (h1, .inl (k0, 512, .inl v_subjects)), (h2, .inr (13, oX10 v_tree_there v_tree_count v_tree_captures v_tree_ranges (.ref h3) (.ref h13) (.ref h14) (.ref h15) (.ref h16) (.ref h17) (.ref h4) (.ref h5) (.ref h6) (.ref h18) (.ref h19) (.ref h20) (.ref h7) (.ref h21) (.ref h8) (.ref h9))), (h3, .inl (k1, 256, .inl v_tree_sort)), (h4, .inl (k2, 256, .inl v_tree_value)), (h5, .inl (k3, 256, .inl v_tree_low)), (h6, .inl (k4, 256, .inl v_tree_high)), (h7, .inl (k5, 256, .inl (fun q9 => bz (v_tree_withinCase q9)))), (h8, .inl (k6, 512, .inl v_tree_rangeBegin)), (h9, .inl (k7, 512, .inl v_tree_rangeEnd))] s.heap := hP
  have hl := lv_entry ([.ref h0, .int p1, .int p2]) (n := 3) (Nat.le_of_ble_eq_true rfl)
  rw [lg_entry_eq]
  generalize (lg_sl ([.ref h0, .int p1, .int p2]) ++ List.replicate (3 - (lg_sl ([.ref h0, .int p1, .int p2])).length) Slot.unset).toArray = ls at hl ⊢
  have hl : lv_has ls 3 [(0, .ref h0), (1, .int p1), (2, .int p2)] := hl
  clear hD0
  obtain ⟨QQ, hQQ⟩ : ∃ QQ, QQ = MQ below (va_Qi (fun (r u : Int32) => r = u) (fun (u : Int32) (t : State) => (Q u) ∧ va_P (dC, dI) vwCl [(h0, .inr (8, oX5 v_start v_count (.ref h2) (.ref h10) (.ref h1) (.ref h11) (.ref h12))), (h1, .inl (k0, 512, .inl v_subjects)), (h2, .inr (13, oX10 v_tree_there v_tree_count v_tree_captures v_tree_ranges (.ref h3) (.ref h13) (.ref h14) (.ref h15) (.ref h16) (.ref h17) (.ref h4) (.ref h5) (.ref h6) (.ref h18) (.ref h19) (.ref h20) (.ref h7) (.ref h21) (.ref h8) (.ref h9))), (h3, .inl (k1, 256, .inl v_tree_sort)), (h4, .inl (k2, 256, .inl v_tree_value)), (h5, .inl (k3, 256, .inl v_tree_low)), (h6, .inl (k4, 256, .inl v_tree_high)), (h7, .inl (k5, 256, .inl (fun q9 => bz (v_tree_withinCase q9)))), (h8, .inl (k6, 512, .inl v_tree_rangeBegin)), (h9, .inl (k7, 512, .inl v_tree_rangeEnd))] t.heap ∧ va_D A [(h0, .inr (8, oX5 v_start v_count (.ref h2) (.ref h10) (.ref h1) (.ref h11) (.ref h12))), (h1, .inl (k0, 512, .inl v_subjects)), (h2, .inr (13, oX10 v_tree_there v_tree_count v_tree_captures v_tree_ranges (.ref h3) (.ref h13) (.ref h14) (.ref h15) (.ref h16) (.ref h17) (.ref h4) (.ref h5) (.ref h6) (.ref h18) (.ref h19) (.ref h20) (.ref h7) (.ref h21) (.ref h8) (.ref h9))), (h3, .inl (k1, 256, .inl v_tree_sort)), (h4, .inl (k2, 256, .inl v_tree_value)), (h5, .inl (k3, 256, .inl v_tree_low)), (h6, .inl (k4, 256, .inl v_tree_high)), (h7, .inl (k5, 256, .inl (fun q9 => bz (v_tree_withinCase q9)))), (h8, .inl (k6, 512, .inl v_tree_rangeBegin)), (h9, .inl (k7, 512, .inl v_tree_rangeEnd))]) A) ([.ref h0, .int p1, .int p2]).toArray s 0 0 A := ⟨_, rfl⟩
  show W p l e ({ frames := 2, cells := 0, slots := 0, locals := 46 } : Room) s m ([.ref h0, .int p1, .int p2]).toArray below meth c s.heap [] 0 0 (MQ below (va_Qi (fun (r u : Int32) => r = u) (fun (u : Int32) (t : State) => (Q u) ∧ va_P (dC, dI) vwCl [(h0, .inr (8, oX5 v_start v_count (.ref h2) (.ref h10) (.ref h1) (.ref h11) (.ref h12))), (h1, .inl (k0, 512, .inl v_subjects)), (h2, .inr (13, oX10 v_tree_there v_tree_count v_tree_captures v_tree_ranges (.ref h3) (.ref h13) (.ref h14) (.ref h15) (.ref h16) (.ref h17) (.ref h4) (.ref h5) (.ref h6) (.ref h18) (.ref h19) (.ref h20) (.ref h7) (.ref h21) (.ref h8) (.ref h9))), (h3, .inl (k1, 256, .inl v_tree_sort)), (h4, .inl (k2, 256, .inl v_tree_value)), (h5, .inl (k3, 256, .inl v_tree_low)), (h6, .inl (k4, 256, .inl v_tree_high)), (h7, .inl (k5, 256, .inl (fun q9 => bz (v_tree_withinCase q9)))), (h8, .inl (k6, 512, .inl v_tree_rangeBegin)), (h9, .inl (k7, 512, .inl v_tree_rangeEnd))] t.heap ∧ va_D A [(h0, .inr (8, oX5 v_start v_count (.ref h2) (.ref h10) (.ref h1) (.ref h11) (.ref h12))), (h1, .inl (k0, 512, .inl v_subjects)), (h2, .inr (13, oX10 v_tree_there v_tree_count v_tree_captures v_tree_ranges (.ref h3) (.ref h13) (.ref h14) (.ref h15) (.ref h16) (.ref h17) (.ref h4) (.ref h5) (.ref h6) (.ref h18) (.ref h19) (.ref h20) (.ref h7) (.ref h21) (.ref h8) (.ref h9))), (h3, .inl (k1, 256, .inl v_tree_sort)), (h4, .inl (k2, 256, .inl v_tree_value)), (h5, .inl (k3, 256, .inl v_tree_low)), (h6, .inl (k4, 256, .inl v_tree_high)), (h7, .inl (k5, 256, .inl (fun q9 => bz (v_tree_withinCase q9)))), (h8, .inl (k6, 512, .inl v_tree_rangeBegin)), (h9, .inl (k7, 512, .inl v_tree_rangeEnd))]) A) ([.ref h0, .int p1, .int p2]).toArray s 0 0 A) (F0 m 0 ls [])
  rw [← hQQ]
  unfold w_X5_takes at w
  refine lv_aload_n hx hb dX5_takes_0 rfl (lv_at hl 0 rfl) ?_
  refine va_get (D := (dC, dI)) (ci := 8) (v := .ref h2) (C := RX5) (T := TX5) (N := 7) hx hb ht inX5 hown hK hP 0 rfl rfl 2 (by decide) (ht _ tw_597) (fun _ h9 => h9) rfl dX5_takes_1 ?_
  refine lv_aload_n hx hb dX5_takes_4 rfl (lv_at hl 0 rfl) ?_
  refine lv_iload_n hx hb dX5_takes_5 rfl (lv_at hl 1 rfl) ?_
  have hPc_1 := hP.sub (ws' := [(h0, .inr (8, oX5 v_start v_count (.ref h2) (.ref h10) (.ref h1) (.ref h11) (.ref h12))), (h1, .inl (k0, 512, .inl v_subjects))]) [0, 1] rfl
  have hDc_1 := hD.sub (ws' := [(h0, .inr (8, oX5 v_start v_count (.ref h2) (.ref h10) (.ref h1) (.ref h11) (.ref h12))), (h1, .inl (k0, 512, .inl v_subjects))]) [0, 1] (by decide) rfl
  have hKc_1 := hK.sub (tys' := [(k0, .int)]) [0] rfl
  have hFc_1 := va_free (wc := [(h0, .inr (8, oX5 v_start v_count (.ref h2) (.ref h10) (.ref h1) (.ref h11) (.ref h12))), (h1, .inl (k0, 512, .inl v_subjects))]) hD hS hA [0, 1] rfl
  refine va_calli (va_runV (As := [.int p1]) (rest := [.ref h2]) ⟨hx, hb, hml, hown, ht⟩ (mt_X5_subjectOf l dC dI h0 h1 h2 h10 h11 h12 k0 p1 v_start v_count v_subjects _ w s.heap.size) (cwV 1 ht (goodV tw_1572 tw_1541 tw_1542 tw_245 gw_X5_subjectOf) rfl rfl rfl (by decide +kernel) ⟨Nat.le_of_ble_eq_true rfl, Nat.le_of_ble_eq_true rfl⟩) ⟨fun a U g mk q => by obtain ⟨q0, q1, qP, qK, qD⟩ := q; exact ⟨q0, q1, qP, va_K.moved (u := U) (U := U.calling g mk a) (Vm.Alike.refl U.vm) qK, qD⟩, va_recv hKc_1 hPc_1 (ci := 8) (q0 := 0) rfl rfl, fun U hU hW => ⟨rfl, by rw [hU], by rw [hU]; exact hPc_1, va_K.moved hW.alike hKc_1, hDc_1.weaken (fun _ _ _ _ => trivial)⟩⟩ rfl rfl hl.1 rfl (lv_room (Nat.le_of_ble_eq_true rfl)) dX5_takes_6 ⟨Nat.le_of_ble_eq_true rfl, Nat.le_of_ble_eq_true rfl⟩) hS (fun q _ h => hFc_1 q h) hFc_1 (fun r_1 u_1 t_1 H_1 locs_1 ht_1 hvm_1 hw_1 hB_1 hz_1 hk_1 hS_1 => ?_)
  subst hw_1
  obtain ⟨w_1, hP1_1, hD1_1⟩ := hB_1
  rw [ht_1] at hP1_1
  obtain ⟨hP_1, hD_1⟩ := va_join (wr := [(h2, .inr (13, oX10 v_tree_there v_tree_count v_tree_captures v_tree_ranges (.ref h3) (.ref h13) (.ref h14) (.ref h15) (.ref h16) (.ref h17) (.ref h4) (.ref h5) (.ref h6) (.ref h18) (.ref h19) (.ref h20) (.ref h7) (.ref h21) (.ref h8) (.ref h9))), (h3, .inl (k1, 256, .inl v_tree_sort)), (h4, .inl (k2, 256, .inl v_tree_value)), (h5, .inl (k3, 256, .inl v_tree_low)), (h6, .inl (k4, 256, .inl v_tree_high)), (h7, .inl (k5, 256, .inl (fun q9 => bz (v_tree_withinCase q9)))), (h8, .inl (k6, 512, .inl v_tree_rangeBegin)), (h9, .inl (k7, 512, .inl v_tree_rangeEnd))]) (w1 := [(h0, .inr (8, oX5 v_start v_count (.ref h2) (.ref h10) (.ref h1) (.ref h11) (.ref h12))), (h1, .inl (k0, 512, .inl v_subjects))]) hP hD [0, 1] [2, 3, 4, 5, 6, 7, 8, 9] rfl rfl (by decide) (by decide) hk_1 hFc_1 hP1_1 hD1_1
  have hP_1 := hP_1.sub (ws' := [(h0, .inr (8, oX5 v_start v_count (.ref h2) (.ref h10) (.ref h1) (.ref h11) (.ref h12))), (h1, .inl (k0, 512, .inl v_subjects)), (h2, .inr (13, oX10 v_tree_there v_tree_count v_tree_captures v_tree_ranges (.ref h3) (.ref h13) (.ref h14) (.ref h15) (.ref h16) (.ref h17) (.ref h4) (.ref h5) (.ref h6) (.ref h18) (.ref h19) (.ref h20) (.ref h7) (.ref h21) (.ref h8) (.ref h9))), (h3, .inl (k1, 256, .inl v_tree_sort)), (h4, .inl (k2, 256, .inl v_tree_value)), (h5, .inl (k3, 256, .inl v_tree_low)), (h6, .inl (k4, 256, .inl v_tree_high)), (h7, .inl (k5, 256, .inl (fun q9 => bz (v_tree_withinCase q9)))), (h8, .inl (k6, 512, .inl v_tree_rangeBegin)), (h9, .inl (k7, 512, .inl v_tree_rangeEnd))]) [8, 9, 0, 1, 2, 3, 4, 5, 6, 7] rfl
  have hD_1 := hD_1.sub (ws' := [(h0, .inr (8, oX5 v_start v_count (.ref h2) (.ref h10) (.ref h1) (.ref h11) (.ref h12))), (h1, .inl (k0, 512, .inl v_subjects)), (h2, .inr (13, oX10 v_tree_there v_tree_count v_tree_captures v_tree_ranges (.ref h3) (.ref h13) (.ref h14) (.ref h15) (.ref h16) (.ref h17) (.ref h4) (.ref h5) (.ref h6) (.ref h18) (.ref h19) (.ref h20) (.ref h7) (.ref h21) (.ref h8) (.ref h9))), (h3, .inl (k1, 256, .inl v_tree_sort)), (h4, .inl (k2, 256, .inl v_tree_value)), (h5, .inl (k3, 256, .inl v_tree_low)), (h6, .inl (k4, 256, .inl v_tree_high)), (h7, .inl (k5, 256, .inl (fun q9 => bz (v_tree_withinCase q9)))), (h8, .inl (k6, 512, .inl v_tree_rangeBegin)), (h9, .inl (k7, 512, .inl v_tree_rangeEnd))]) [8, 9, 0, 1, 2, 3, 4, 5, 6, 7] (by decide) rfl
  clear hPc_1 hDc_1 hKc_1 hFc_1 hP1_1 hD1_1 hk_1 hz_1
  refine lv_iload_n hx hb dX5_takes_9 rfl (lv_at hl 2 rfl) ?_
  have hPc_2 := hP_1.sub (ws' := [(h2, .inr (13, oX10 v_tree_there v_tree_count v_tree_captures v_tree_ranges (.ref h3) (.ref h13) (.ref h14) (.ref h15) (.ref h16) (.ref h17) (.ref h4) (.ref h5) (.ref h6) (.ref h18) (.ref h19) (.ref h20) (.ref h7) (.ref h21) (.ref h8) (.ref h9))), (h3, .inl (k1, 256, .inl v_tree_sort)), (h4, .inl (k2, 256, .inl v_tree_value)), (h5, .inl (k3, 256, .inl v_tree_low)), (h6, .inl (k4, 256, .inl v_tree_high)), (h7, .inl (k5, 256, .inl (fun q9 => bz (v_tree_withinCase q9)))), (h8, .inl (k6, 512, .inl v_tree_rangeBegin)), (h9, .inl (k7, 512, .inl v_tree_rangeEnd))]) [2, 3, 4, 5, 6, 7, 8, 9] rfl
  have hDc_2 := hD_1.sub (ws' := [(h2, .inr (13, oX10 v_tree_there v_tree_count v_tree_captures v_tree_ranges (.ref h3) (.ref h13) (.ref h14) (.ref h15) (.ref h16) (.ref h17) (.ref h4) (.ref h5) (.ref h6) (.ref h18) (.ref h19) (.ref h20) (.ref h7) (.ref h21) (.ref h8) (.ref h9))), (h3, .inl (k1, 256, .inl v_tree_sort)), (h4, .inl (k2, 256, .inl v_tree_value)), (h5, .inl (k3, 256, .inl v_tree_low)), (h6, .inl (k4, 256, .inl v_tree_high)), (h7, .inl (k5, 256, .inl (fun q9 => bz (v_tree_withinCase q9)))), (h8, .inl (k6, 512, .inl v_tree_rangeBegin)), (h9, .inl (k7, 512, .inl v_tree_rangeEnd))]) [2, 3, 4, 5, 6, 7, 8, 9] (by decide) rfl
  have hKc_2 := hK.sub (tys' := [(k1, .int), (k2, .int), (k3, .int), (k4, .int), (k5, .boolean), (k6, .int), (k7, .int)]) [1, 2, 3, 4, 5, 6, 7] rfl
  have hFc_2 := va_free (wc := [(h2, .inr (13, oX10 v_tree_there v_tree_count v_tree_captures v_tree_ranges (.ref h3) (.ref h13) (.ref h14) (.ref h15) (.ref h16) (.ref h17) (.ref h4) (.ref h5) (.ref h6) (.ref h18) (.ref h19) (.ref h20) (.ref h7) (.ref h21) (.ref h8) (.ref h9))), (h3, .inl (k1, 256, .inl v_tree_sort)), (h4, .inl (k2, 256, .inl v_tree_value)), (h5, .inl (k3, 256, .inl v_tree_low)), (h6, .inl (k4, 256, .inl v_tree_high)), (h7, .inl (k5, 256, .inl (fun q9 => bz (v_tree_withinCase q9)))), (h8, .inl (k6, 512, .inl v_tree_rangeBegin)), (h9, .inl (k7, 512, .inl v_tree_rangeEnd))]) hD_1 hS_1 hA [2, 3, 4, 5, 6, 7, 8, 9] rfl
  refine va_calli (va_runV (As := [.int r_1, .int p2]) (rest := []) ⟨hx, hb, hml, hown, ht⟩ (mt_X10_takes l dC dI h2 h3 h4 h5 h6 h7 h8 h9 h13 h14 h15 h16 h17 h18 h19 h20 h21 k1 k2 k3 k4 k5 k6 k7 r_1 p2 v_tree_there v_tree_count v_tree_captures v_tree_ranges v_tree_sort v_tree_value v_tree_low v_tree_high v_tree_withinCase v_tree_rangeBegin v_tree_rangeEnd _ w_1 H_1.size) (cwV 2 ht (goodV tw_1573 tw_1297 tw_1298 tw_240 gw_X10_takes) rfl rfl rfl (by decide +kernel) ⟨Nat.le_of_ble_eq_true rfl, Nat.le_of_ble_eq_true rfl⟩) ⟨fun a U g mk q => by obtain ⟨q0, q1, qP, qK, qD, q5⟩ := q; exact ⟨q0, q1, qP, va_K.moved (u := U) (U := U.calling g mk a) (Vm.Alike.refl U.vm) qK, qD, q5.calling⟩, va_recv hKc_2 hPc_2 (ci := 13) (q0 := 0) rfl rfl, fun U hU hW => ⟨rfl, by rw [hU], by rw [hU]; exact hPc_2, va_K.moved hW.alike hKc_2, hDc_2.weaken (fun _ _ _ _ => trivial), hE.warm hW⟩⟩ rfl rfl hl.1 rfl (lv_room (Nat.le_of_ble_eq_true rfl)) dX5_takes_10 ⟨Nat.le_of_ble_eq_true rfl, Nat.le_of_ble_eq_true rfl⟩) hS_1 (fun q _ h => hFc_2 q h) hFc_2 (fun r_2 u_2 t_2 H_2 locs_2 ht_2 hvm_2 hw_2 hB_2 hz_2 hk_2 hS_2 => ?_)
  subst hw_2
  obtain ⟨w_2, hP1_2, hD1_2⟩ := hB_2
  rw [ht_2] at hP1_2
  obtain ⟨hP_2, hD_2⟩ := va_join (wr := [(h0, .inr (8, oX5 v_start v_count (.ref h2) (.ref h10) (.ref h1) (.ref h11) (.ref h12))), (h1, .inl (k0, 512, .inl v_subjects))]) (w1 := [(h2, .inr (13, oX10 v_tree_there v_tree_count v_tree_captures v_tree_ranges (.ref h3) (.ref h13) (.ref h14) (.ref h15) (.ref h16) (.ref h17) (.ref h4) (.ref h5) (.ref h6) (.ref h18) (.ref h19) (.ref h20) (.ref h7) (.ref h21) (.ref h8) (.ref h9))), (h3, .inl (k1, 256, .inl v_tree_sort)), (h4, .inl (k2, 256, .inl v_tree_value)), (h5, .inl (k3, 256, .inl v_tree_low)), (h6, .inl (k4, 256, .inl v_tree_high)), (h7, .inl (k5, 256, .inl (fun q9 => bz (v_tree_withinCase q9)))), (h8, .inl (k6, 512, .inl v_tree_rangeBegin)), (h9, .inl (k7, 512, .inl v_tree_rangeEnd))]) hP_1 hD_1 [2, 3, 4, 5, 6, 7, 8, 9] [0, 1] rfl rfl (by decide) (by decide) hk_2 hFc_2 hP1_2 hD1_2
  have hP_2 := hP_2.sub (ws' := [(h0, .inr (8, oX5 v_start v_count (.ref h2) (.ref h10) (.ref h1) (.ref h11) (.ref h12))), (h1, .inl (k0, 512, .inl v_subjects)), (h2, .inr (13, oX10 v_tree_there v_tree_count v_tree_captures v_tree_ranges (.ref h3) (.ref h13) (.ref h14) (.ref h15) (.ref h16) (.ref h17) (.ref h4) (.ref h5) (.ref h6) (.ref h18) (.ref h19) (.ref h20) (.ref h7) (.ref h21) (.ref h8) (.ref h9))), (h3, .inl (k1, 256, .inl v_tree_sort)), (h4, .inl (k2, 256, .inl v_tree_value)), (h5, .inl (k3, 256, .inl v_tree_low)), (h6, .inl (k4, 256, .inl v_tree_high)), (h7, .inl (k5, 256, .inl (fun q9 => bz (v_tree_withinCase q9)))), (h8, .inl (k6, 512, .inl v_tree_rangeBegin)), (h9, .inl (k7, 512, .inl v_tree_rangeEnd))]) [0, 1, 2, 3, 4, 5, 6, 7, 8, 9] rfl
  have hD_2 := hD_2.sub (ws' := [(h0, .inr (8, oX5 v_start v_count (.ref h2) (.ref h10) (.ref h1) (.ref h11) (.ref h12))), (h1, .inl (k0, 512, .inl v_subjects)), (h2, .inr (13, oX10 v_tree_there v_tree_count v_tree_captures v_tree_ranges (.ref h3) (.ref h13) (.ref h14) (.ref h15) (.ref h16) (.ref h17) (.ref h4) (.ref h5) (.ref h6) (.ref h18) (.ref h19) (.ref h20) (.ref h7) (.ref h21) (.ref h8) (.ref h9))), (h3, .inl (k1, 256, .inl v_tree_sort)), (h4, .inl (k2, 256, .inl v_tree_value)), (h5, .inl (k3, 256, .inl v_tree_low)), (h6, .inl (k4, 256, .inl v_tree_high)), (h7, .inl (k5, 256, .inl (fun q9 => bz (v_tree_withinCase q9)))), (h8, .inl (k6, 512, .inl v_tree_rangeBegin)), (h9, .inl (k7, 512, .inl v_tree_rangeEnd))]) [0, 1, 2, 3, 4, 5, 6, 7, 8, 9] (by decide) rfl
  clear hPc_2 hDc_2 hKc_2 hFc_2 hP1_2 hD1_2 hk_2 hz_2
  rw [hQQ]
  exact W.zret (v := r_2) hx hb hr (or_nar w_2.1) (fun t9 ht9 hW9 => ⟨⟨r_2, r_2, rfl, rfl, ⟨w_2.2, by rw [ht9]; exact hP_2, hD_2⟩⟩, hS_2.F ht9⟩) hS_2.2.2 dX5_takes_13
def w_X5_has_17 (Q : Int32 → Prop) (s0_17 : Int32) : Prop :=
  (s0_17 = 0 ∨ s0_17 = 1) ∧ Q s0_17
def w_X5_has_16 (Q : Int32 → Prop) : Prop :=
  w_X5_has_17 Q 0
def w_X5_has (p1 : Int32) (v_count : Int32) (Q : Int32 → Prop) : Prop :=
  ((p1 < 0) → w_X5_has_16 Q) ∧ ((¬ p1 < 0) → ((v_count ≤ p1) → w_X5_has_16 Q) ∧ ((¬ v_count ≤ p1) → w_X5_has_17 Q 1))
set_option maxHeartbeats 4000000 in
set_option maxRecDepth 100000 in
theorem mt_X5_has (l : Launch) (dC : Nat → ClassId) (dI : Nat → Nat → Nat) (h0 h1 h2 h3 h4 h5 : Nat) (p1 : Int32) (v_start : Int32) (v_count : Int32) (Q : Int32 → Prop) (w : w_X5_has p1 v_count Q) (sz : Nat) : Met l yX5_has (WS yX5_has cX5_has 2 (some (.boolean))) ({ frames := 0, cells := 0, slots := 0, locals := 0 } : Room) (va_Pc [.ref h0, .int p1] (fun U => U.heap.size = sz ∧ va_P (dC, dI) vwCl [(h0, .inr (8, oX5 v_start v_count (.ref h1) (.ref h2) (.ref h3) (.ref h4) (.ref h5)))] U.heap ∧ va_K (dC, dI) vwCl [] U ∧ va_D (fun _ => True) [(h0, .inr (8, oX5 v_start v_count (.ref h1) (.ref h2) (.ref h3) (.ref h4) (.ref h5)))])) (va_Qi (fun (r u : Int32) => r = u) (fun (u : Int32) (t : State) => (Q u) ∧ va_P (dC, dI) vwCl [(h0, .inr (8, oX5 v_start v_count (.ref h1) (.ref h2) (.ref h3) (.ref h4) (.ref h5)))] t.heap ∧ va_D (va_A [(h0, .inr (8, oX5 v_start v_count (.ref h1) (.ref h2) (.ref h3) (.ref h4) (.ref h5)))] sz) [(h0, .inr (8, oX5 v_start v_count (.ref h1) (.ref h2) (.ref h3) (.ref h4) (.ref h5)))]) (va_A [(h0, .inr (8, oX5 v_start v_count (.ref h1) (.ref h2) (.ref h3) (.ref h4) (.ref h5)))] sz)) 0 0 (va_A [(h0, .inr (8, oX5 v_start v_count (.ref h1) (.ref h2) (.ref h3) (.ref h4) (.ref h5)))] sz) := by
  refine Met.ofW (cc := cX5_has) (maxL := 2) (ret := (some (.boolean))) (by decide) rfl ?_
  intro p e s m args below meth c s₁ B hml hv
  obtain ⟨rfl, hsz, hP, hK, hD0⟩ := hv
  have hx := B.exec
  have hb := B.bytes
  have hr := B.returns
  have hts := atoms_spec (ws := WS yX5_has cX5_has 2 (some (.boolean))) B.pre
  have ht : ∀ w ∈ TW, w.before _ s = true := fun w h => hts w (List.mem_cons_of_mem _ h)
  have hown : s.vm.findClass "PatternWorkshop$Program" = some m.cls := findClass_of_methodNamed B.named
  have hlocks := B.notSynchronized
  subst hsz
  have hD := hD0.self (sz := s.heap.size)
  generalize hAe : va_A [(h0, .inr (8, oX5 v_start v_count (.ref h1) (.ref h2) (.ref h3) (.ref h4) (.ref h5)))] s.heap.size = A at hD ⊢
  have hA : ∀ q : Nat, s.heap.size ≤ q → A q := fun q h => by rw [← hAe]; exact Or.inr h
  have hS : va_S A s.heap s.heap [] := va_S.rf
  have hP : va_P (dC, dI) vwCl [(h0, .inr (8, oX5 v_start v_count (.ref h1) (.ref h2) (.ref h3) (.ref h4) (.ref h5)))] s.heap := hP
  have hl := lv_entry ([.ref h0, .int p1]) (n := 2) (Nat.le_of_ble_eq_true rfl)
  rw [lg_entry_eq]
  generalize (lg_sl ([.ref h0, .int p1]) ++ List.replicate (2 - (lg_sl ([.ref h0, .int p1])).length) Slot.unset).toArray = ls at hl ⊢
  have hl : lv_has ls 2 [(0, .ref h0), (1, .int p1)] := hl
  clear hD0
  obtain ⟨QQ, hQQ⟩ : ∃ QQ, QQ = MQ below (va_Qi (fun (r u : Int32) => r = u) (fun (u : Int32) (t : State) => (Q u) ∧ va_P (dC, dI) vwCl [(h0, .inr (8, oX5 v_start v_count (.ref h1) (.ref h2) (.ref h3) (.ref h4) (.ref h5)))] t.heap ∧ va_D A [(h0, .inr (8, oX5 v_start v_count (.ref h1) (.ref h2) (.ref h3) (.ref h4) (.ref h5)))]) A) ([.ref h0, .int p1]).toArray s 0 0 A := ⟨_, rfl⟩
  show W p l e ({ frames := 0, cells := 0, slots := 0, locals := 0 } : Room) s m ([.ref h0, .int p1]).toArray below meth c s.heap [] 0 0 (MQ below (va_Qi (fun (r u : Int32) => r = u) (fun (u : Int32) (t : State) => (Q u) ∧ va_P (dC, dI) vwCl [(h0, .inr (8, oX5 v_start v_count (.ref h1) (.ref h2) (.ref h3) (.ref h4) (.ref h5)))] t.heap ∧ va_D A [(h0, .inr (8, oX5 v_start v_count (.ref h1) (.ref h2) (.ref h3) (.ref h4) (.ref h5)))]) A) ([.ref h0, .int p1]).toArray s 0 0 A) (F0 m 0 ls [])
  rw [← hQQ]
  unfold w_X5_has at w
  refine lv_iload_n hx hb dX5_has_0 rfl (lv_at hl 1 rfl) ?_
  have k_17 : ∀ (s0_17 : Int32), ∀ (H_b17 : Heap) (locs_b17 : List Loc) (ls_b17 : Array Slot), w_X5_has_17 Q s0_17 → va_P (dC, dI) vwCl [(h0, .inr (8, oX5 v_start v_count (.ref h1) (.ref h2) (.ref h3) (.ref h4) (.ref h5)))] H_b17 → va_D A [(h0, .inr (8, oX5 v_start v_count (.ref h1) (.ref h2) (.ref h3) (.ref h4) (.ref h5)))] → va_S A s.heap H_b17 locs_b17 → lv_has ls_b17 2 [] → W p l e ({ frames := 0, cells := 0, slots := 0, locals := 0 } : Room) s m ([.ref h0, .int p1]).toArray below meth c H_b17 locs_b17 0 0 QQ (F0 m 17 ls_b17 [.int s0_17]) := by
    intro s0_17 H_b17 locs_b17 ls_b17 w_b17 hP_b17 hD_b17 hS_b17 hl_b17
    unfold w_X5_has_17 at w_b17
    rw [hQQ]
    exact W.zret (v := s0_17) hx hb hr (or_nar w_b17.1) (fun t9 ht9 hW9 => ⟨⟨s0_17, s0_17, rfl, rfl, ⟨w_b17.2, by rw [ht9]; exact hP_b17, hD_b17⟩⟩, hS_b17.F ht9⟩) hS_b17.2.2 dX5_has_17
  have k_16 : ∀ (H_b16 : Heap) (locs_b16 : List Loc) (ls_b16 : Array Slot), w_X5_has_16 Q → va_P (dC, dI) vwCl [(h0, .inr (8, oX5 v_start v_count (.ref h1) (.ref h2) (.ref h3) (.ref h4) (.ref h5)))] H_b16 → va_D A [(h0, .inr (8, oX5 v_start v_count (.ref h1) (.ref h2) (.ref h3) (.ref h4) (.ref h5)))] → va_S A s.heap H_b16 locs_b16 → lv_has ls_b16 2 [] → W p l e ({ frames := 0, cells := 0, slots := 0, locals := 0 } : Room) s m ([.ref h0, .int p1]).toArray below meth c H_b16 locs_b16 0 0 QQ (F0 m 16 ls_b16 []) := by
    intro  H_b16 locs_b16 ls_b16 w_b16 hP_b16 hD_b16 hS_b16 hl_b16
    unfold w_X5_has_16 at w_b16
    refine lv_iconst (v := 0) hx hb dX5_has_16 (by decide) ?_
    exact k_17 0 _ _ _ w_b16 hP_b16 hD_b16 hS_b16 (lv_sub hl_b16 [] rfl)
  refine lv_if_lt (tgt := 16) hx hb dX5_has_1 (by decide) (fun c_1 => ?_) (fun c_1 => ?_)
  · exact k_16  _ _ _ (w.1 c_1) hP hD hS (lv_sub hl [] rfl)
  · refine lv_iload_n hx hb dX5_has_4 rfl (lv_at hl 1 rfl) ?_
    refine lv_aload_n hx hb dX5_has_5 rfl (lv_at hl 0 rfl) ?_
    refine va_get (D := (dC, dI)) (ci := 8) (v := .int v_count) (C := RX5) (T := TX5) (N := 7) hx hb ht inX5 hown hK hP 0 rfl rfl 1 (by decide) (ht _ tw_596) (fun _ h9 => h9) rfl dX5_has_6 ?_
    refine lv_icmp_ge (tgt := 16) hx hb dX5_has_9 (by decide) (fun c_2 => ?_) (fun c_2 => ?_)
    · exact k_16  _ _ _ ((w.2 c_1).1 c_2) hP hD hS (lv_sub hl [] rfl)
    · refine lv_iconst (v := 1) hx hb dX5_has_12 (by decide) ?_
      refine lv_goto (tgt := 17) hx hb dX5_has_13 (by decide) ?_
      exact k_17 1 _ _ _ ((w.2 c_1).2 c_2) hP hD hS (lv_sub hl [] rfl)
def w_X5_kindOf_23 (Q : Int32 → Prop) (s0_23 : Int32) : Prop :=
  Q s0_23
def w_X5_kindOf_21 (Q : Int32 → Prop) : Prop :=
  w_X5_kindOf_23 Q 6
def w_X5_kindOf (p1 : Int32) (v_count : Int32) (v_kinds : Nat → Int32) (Q : Int32 → Prop) : Prop :=
  ((p1 < 0) → w_X5_kindOf_21 Q) ∧ ((¬ p1 < 0) → ((v_count ≤ p1) → w_X5_kindOf_21 Q) ∧ ((¬ v_count ≤ p1) → vp_in p1 512 ∧ ∀ x_3 : Int32, x_3 = v_kinds p1.toNatClampNeg → w_X5_kindOf_23 Q x_3))
set_option maxHeartbeats 4000000 in
set_option maxRecDepth 100000 in
theorem mt_X5_kindOf (l : Launch) (dC : Nat → ClassId) (dI : Nat → Nat → Nat) (h0 h1 h2 h3 h4 h5 : Nat) (k0 : ClassId) (p1 : Int32) (v_start : Int32) (v_count : Int32) (v_kinds : Nat → Int32) (Q : Int32 → Prop) (w : w_X5_kindOf p1 v_count v_kinds Q) (sz : Nat) : Met l yX5_kindOf (WS yX5_kindOf cX5_kindOf 2 (some (.int))) ({ frames := 0, cells := 0, slots := 0, locals := 0 } : Room) (va_Pc [.ref h0, .int p1] (fun U => U.heap.size = sz ∧ va_P (dC, dI) vwCl [(h0, .inr (8, oX5 v_start v_count (.ref h2) (.ref h1) (.ref h3) (.ref h4) (.ref h5))), (h1, .inl (k0, 512, .inl v_kinds))] U.heap ∧ va_K (dC, dI) vwCl [(k0, .int)] U ∧ va_D (fun _ => True) [(h0, .inr (8, oX5 v_start v_count (.ref h2) (.ref h1) (.ref h3) (.ref h4) (.ref h5))), (h1, .inl (k0, 512, .inl v_kinds))])) (va_Qi (fun (r u : Int32) => r = u) (fun (u : Int32) (t : State) => (Q u) ∧ va_P (dC, dI) vwCl [(h0, .inr (8, oX5 v_start v_count (.ref h2) (.ref h1) (.ref h3) (.ref h4) (.ref h5))), (h1, .inl (k0, 512, .inl v_kinds))] t.heap ∧ va_D (va_A [(h0, .inr (8, oX5 v_start v_count (.ref h2) (.ref h1) (.ref h3) (.ref h4) (.ref h5))), (h1, .inl (k0, 512, .inl v_kinds))] sz) [(h0, .inr (8, oX5 v_start v_count (.ref h2) (.ref h1) (.ref h3) (.ref h4) (.ref h5))), (h1, .inl (k0, 512, .inl v_kinds))]) (va_A [(h0, .inr (8, oX5 v_start v_count (.ref h2) (.ref h1) (.ref h3) (.ref h4) (.ref h5))), (h1, .inl (k0, 512, .inl v_kinds))] sz)) 0 0 (va_A [(h0, .inr (8, oX5 v_start v_count (.ref h2) (.ref h1) (.ref h3) (.ref h4) (.ref h5))), (h1, .inl (k0, 512, .inl v_kinds))] sz) := by
  refine Met.ofW (cc := cX5_kindOf) (maxL := 2) (ret := (some (.int))) (by decide) rfl ?_
  intro p e s m args below meth c s₁ B hml hv
  obtain ⟨rfl, hsz, hP, hK, hD0⟩ := hv
  have hx := B.exec
  have hb := B.bytes
  have hr := B.returns
  have hts := atoms_spec (ws := WS yX5_kindOf cX5_kindOf 2 (some (.int))) B.pre
  have ht : ∀ w ∈ TW, w.before _ s = true := fun w h => hts w (List.mem_cons_of_mem _ h)
  have hown : s.vm.findClass "PatternWorkshop$Program" = some m.cls := findClass_of_methodNamed B.named
  have hlocks := B.notSynchronized
  subst hsz
  have hD := hD0.self (sz := s.heap.size)
  generalize hAe : va_A [(h0, .inr (8, oX5 v_start v_count (.ref h2) (.ref h1) (.ref h3) (.ref h4) (.ref h5))), (h1, .inl (k0, 512, .inl v_kinds))] s.heap.size = A at hD ⊢
  have hA : ∀ q : Nat, s.heap.size ≤ q → A q := fun q h => by rw [← hAe]; exact Or.inr h
  have hS : va_S A s.heap s.heap [] := va_S.rf
  have hP : va_P (dC, dI) vwCl [(h0, .inr (8, oX5 v_start v_count (.ref h2) (.ref h1) (.ref h3) (.ref h4) (.ref h5))), (h1, .inl (k0, 512, .inl v_kinds))] s.heap := hP
  have hl := lv_entry ([.ref h0, .int p1]) (n := 2) (Nat.le_of_ble_eq_true rfl)
  rw [lg_entry_eq]
  generalize (lg_sl ([.ref h0, .int p1]) ++ List.replicate (2 - (lg_sl ([.ref h0, .int p1])).length) Slot.unset).toArray = ls at hl ⊢
  have hl : lv_has ls 2 [(0, .ref h0), (1, .int p1)] := hl
  clear hD0
  obtain ⟨QQ, hQQ⟩ : ∃ QQ, QQ = MQ below (va_Qi (fun (r u : Int32) => r = u) (fun (u : Int32) (t : State) => (Q u) ∧ va_P (dC, dI) vwCl [(h0, .inr (8, oX5 v_start v_count (.ref h2) (.ref h1) (.ref h3) (.ref h4) (.ref h5))), (h1, .inl (k0, 512, .inl v_kinds))] t.heap ∧ va_D A [(h0, .inr (8, oX5 v_start v_count (.ref h2) (.ref h1) (.ref h3) (.ref h4) (.ref h5))), (h1, .inl (k0, 512, .inl v_kinds))]) A) ([.ref h0, .int p1]).toArray s 0 0 A := ⟨_, rfl⟩
  show W p l e ({ frames := 0, cells := 0, slots := 0, locals := 0 } : Room) s m ([.ref h0, .int p1]).toArray below meth c s.heap [] 0 0 (MQ below (va_Qi (fun (r u : Int32) => r = u) (fun (u : Int32) (t : State) => (Q u) ∧ va_P (dC, dI) vwCl [(h0, .inr (8, oX5 v_start v_count (.ref h2) (.ref h1) (.ref h3) (.ref h4) (.ref h5))), (h1, .inl (k0, 512, .inl v_kinds))] t.heap ∧ va_D A [(h0, .inr (8, oX5 v_start v_count (.ref h2) (.ref h1) (.ref h3) (.ref h4) (.ref h5))), (h1, .inl (k0, 512, .inl v_kinds))]) A) ([.ref h0, .int p1]).toArray s 0 0 A) (F0 m 0 ls [])
  rw [← hQQ]
  unfold w_X5_kindOf at w
  refine lv_iload_n hx hb dX5_kindOf_0 rfl (lv_at hl 1 rfl) ?_
  have k_23 : ∀ (s0_23 : Int32), ∀ (H_b23 : Heap) (locs_b23 : List Loc) (ls_b23 : Array Slot), w_X5_kindOf_23 Q s0_23 → va_P (dC, dI) vwCl [(h0, .inr (8, oX5 v_start v_count (.ref h2) (.ref h1) (.ref h3) (.ref h4) (.ref h5))), (h1, .inl (k0, 512, .inl v_kinds))] H_b23 → va_D A [(h0, .inr (8, oX5 v_start v_count (.ref h2) (.ref h1) (.ref h3) (.ref h4) (.ref h5))), (h1, .inl (k0, 512, .inl v_kinds))] → va_S A s.heap H_b23 locs_b23 → lv_has ls_b23 2 [] → W p l e ({ frames := 0, cells := 0, slots := 0, locals := 0 } : Room) s m ([.ref h0, .int p1]).toArray below meth c H_b23 locs_b23 0 0 QQ (F0 m 23 ls_b23 [.int s0_23]) := by
    intro s0_23 H_b23 locs_b23 ls_b23 w_b23 hP_b23 hD_b23 hS_b23 hl_b23
    unfold w_X5_kindOf_23 at w_b23
    rw [hQQ]
    exact W.iret (v := s0_23) hx hb hr (fun t9 ht9 hW9 => ⟨⟨s0_23, s0_23, rfl, rfl, ⟨w_b23, by rw [ht9]; exact hP_b23, hD_b23⟩⟩, hS_b23.F ht9⟩) hS_b23.2.2 dX5_kindOf_23
  have k_21 : ∀ (H_b21 : Heap) (locs_b21 : List Loc) (ls_b21 : Array Slot), w_X5_kindOf_21 Q → va_P (dC, dI) vwCl [(h0, .inr (8, oX5 v_start v_count (.ref h2) (.ref h1) (.ref h3) (.ref h4) (.ref h5))), (h1, .inl (k0, 512, .inl v_kinds))] H_b21 → va_D A [(h0, .inr (8, oX5 v_start v_count (.ref h2) (.ref h1) (.ref h3) (.ref h4) (.ref h5))), (h1, .inl (k0, 512, .inl v_kinds))] → va_S A s.heap H_b21 locs_b21 → lv_has ls_b21 2 [] → W p l e ({ frames := 0, cells := 0, slots := 0, locals := 0 } : Room) s m ([.ref h0, .int p1]).toArray below meth c H_b21 locs_b21 0 0 QQ (F0 m 21 ls_b21 []) := by
    intro  H_b21 locs_b21 ls_b21 w_b21 hP_b21 hD_b21 hS_b21 hl_b21
    unfold w_X5_kindOf_21 at w_b21
    refine lv_bipush (v := 6) hx hb dX5_kindOf_21 (by decide) ?_
    exact k_23 6 _ _ _ w_b21 hP_b21 hD_b21 hS_b21 (lv_sub hl_b21 [] rfl)
  refine lv_if_lt (tgt := 21) hx hb dX5_kindOf_1 (by decide) (fun c_1 => ?_) (fun c_1 => ?_)
  · exact k_21  _ _ _ (w.1 c_1) hP hD hS (lv_sub hl [] rfl)
  · refine lv_iload_n hx hb dX5_kindOf_4 rfl (lv_at hl 1 rfl) ?_
    refine lv_aload_n hx hb dX5_kindOf_5 rfl (lv_at hl 0 rfl) ?_
    refine va_get (D := (dC, dI)) (ci := 8) (v := .int v_count) (C := RX5) (T := TX5) (N := 7) hx hb ht inX5 hown hK hP 0 rfl rfl 1 (by decide) (ht _ tw_596) (fun _ h9 => h9) rfl dX5_kindOf_6 ?_
    refine lv_icmp_ge (tgt := 21) hx hb dX5_kindOf_9 (by decide) (fun c_2 => ?_) (fun c_2 => ?_)
    · exact k_21  _ _ _ ((w.2 c_1).1 c_2) hP hD hS (lv_sub hl [] rfl)
    · refine lv_aload_n hx hb dX5_kindOf_12 rfl (lv_at hl 0 rfl) ?_
      refine va_get (D := (dC, dI)) (ci := 8) (v := .ref h1) (C := RX5) (T := TX5) (N := 7) hx hb ht inX5 hown hK hP 0 rfl rfl 3 (by decide) (ht _ tw_598) (fun _ h9 => h9) rfl dX5_kindOf_13 ?_
      refine lv_iload_n hx hb dX5_kindOf_16 rfl (lv_at hl 1 rfl) ?_
      refine va_iald hx hb hK hP 1 0 rfl rfl (i := p1) ((w.2 c_1).2 c_2).1 dX5_kindOf_17 ?_
      refine lv_topi (fun x_3 ex_3 => ?_)
      have ex_3 : x_3 = v_kinds p1.toNatClampNeg := ex_3
      refine lv_goto (tgt := 23) hx hb dX5_kindOf_18 (by decide) ?_
      exact k_23 x_3 _ _ _ ((((w.2 c_1).2 c_2).2) x_3 ex_3) hP hD hS (lv_sub hl [] rfl)
def w_X5_nextOf_22 (Q : Int32 → Prop) (s0_22 : Int32) : Prop :=
  Q s0_22
def w_X5_nextOf_21 (Q : Int32 → Prop) : Prop :=
  w_X5_nextOf_22 Q (-1)
def w_X5_nextOf (p1 : Int32) (v_count : Int32) (v_nexts : Nat → Int32) (Q : Int32 → Prop) : Prop :=
  ((p1 < 0) → w_X5_nextOf_21 Q) ∧ ((¬ p1 < 0) → ((v_count ≤ p1) → w_X5_nextOf_21 Q) ∧ ((¬ v_count ≤ p1) → vp_in p1 512 ∧ ∀ x_3 : Int32, x_3 = v_nexts p1.toNatClampNeg → w_X5_nextOf_22 Q x_3))
set_option maxHeartbeats 4000000 in
set_option maxRecDepth 100000 in
theorem mt_X5_nextOf (l : Launch) (dC : Nat → ClassId) (dI : Nat → Nat → Nat) (h0 h1 h2 h3 h4 h5 : Nat) (k0 : ClassId) (p1 : Int32) (v_start : Int32) (v_count : Int32) (v_nexts : Nat → Int32) (Q : Int32 → Prop) (w : w_X5_nextOf p1 v_count v_nexts Q) (sz : Nat) : Met l yX5_nextOf (WS yX5_nextOf cX5_nextOf 2 (some (.int))) ({ frames := 0, cells := 0, slots := 0, locals := 0 } : Room) (va_Pc [.ref h0, .int p1] (fun U => U.heap.size = sz ∧ va_P (dC, dI) vwCl [(h0, .inr (8, oX5 v_start v_count (.ref h2) (.ref h3) (.ref h4) (.ref h1) (.ref h5))), (h1, .inl (k0, 512, .inl v_nexts))] U.heap ∧ va_K (dC, dI) vwCl [(k0, .int)] U ∧ va_D (fun _ => True) [(h0, .inr (8, oX5 v_start v_count (.ref h2) (.ref h3) (.ref h4) (.ref h1) (.ref h5))), (h1, .inl (k0, 512, .inl v_nexts))])) (va_Qi (fun (r u : Int32) => r = u) (fun (u : Int32) (t : State) => (Q u) ∧ va_P (dC, dI) vwCl [(h0, .inr (8, oX5 v_start v_count (.ref h2) (.ref h3) (.ref h4) (.ref h1) (.ref h5))), (h1, .inl (k0, 512, .inl v_nexts))] t.heap ∧ va_D (va_A [(h0, .inr (8, oX5 v_start v_count (.ref h2) (.ref h3) (.ref h4) (.ref h1) (.ref h5))), (h1, .inl (k0, 512, .inl v_nexts))] sz) [(h0, .inr (8, oX5 v_start v_count (.ref h2) (.ref h3) (.ref h4) (.ref h1) (.ref h5))), (h1, .inl (k0, 512, .inl v_nexts))]) (va_A [(h0, .inr (8, oX5 v_start v_count (.ref h2) (.ref h3) (.ref h4) (.ref h1) (.ref h5))), (h1, .inl (k0, 512, .inl v_nexts))] sz)) 0 0 (va_A [(h0, .inr (8, oX5 v_start v_count (.ref h2) (.ref h3) (.ref h4) (.ref h1) (.ref h5))), (h1, .inl (k0, 512, .inl v_nexts))] sz) := by
  refine Met.ofW (cc := cX5_nextOf) (maxL := 2) (ret := (some (.int))) (by decide) rfl ?_
  intro p e s m args below meth c s₁ B hml hv
  obtain ⟨rfl, hsz, hP, hK, hD0⟩ := hv
  have hx := B.exec
  have hb := B.bytes
  have hr := B.returns
  have hts := atoms_spec (ws := WS yX5_nextOf cX5_nextOf 2 (some (.int))) B.pre
  have ht : ∀ w ∈ TW, w.before _ s = true := fun w h => hts w (List.mem_cons_of_mem _ h)
  have hown : s.vm.findClass "PatternWorkshop$Program" = some m.cls := findClass_of_methodNamed B.named
  have hlocks := B.notSynchronized
  subst hsz
  have hD := hD0.self (sz := s.heap.size)
  generalize hAe : va_A [(h0, .inr (8, oX5 v_start v_count (.ref h2) (.ref h3) (.ref h4) (.ref h1) (.ref h5))), (h1, .inl (k0, 512, .inl v_nexts))] s.heap.size = A at hD ⊢
  have hA : ∀ q : Nat, s.heap.size ≤ q → A q := fun q h => by rw [← hAe]; exact Or.inr h
  have hS : va_S A s.heap s.heap [] := va_S.rf
  have hP : va_P (dC, dI) vwCl [(h0, .inr (8, oX5 v_start v_count (.ref h2) (.ref h3) (.ref h4) (.ref h1) (.ref h5))), (h1, .inl (k0, 512, .inl v_nexts))] s.heap := hP
  have hl := lv_entry ([.ref h0, .int p1]) (n := 2) (Nat.le_of_ble_eq_true rfl)
  rw [lg_entry_eq]
  generalize (lg_sl ([.ref h0, .int p1]) ++ List.replicate (2 - (lg_sl ([.ref h0, .int p1])).length) Slot.unset).toArray = ls at hl ⊢
  have hl : lv_has ls 2 [(0, .ref h0), (1, .int p1)] := hl
  clear hD0
  obtain ⟨QQ, hQQ⟩ : ∃ QQ, QQ = MQ below (va_Qi (fun (r u : Int32) => r = u) (fun (u : Int32) (t : State) => (Q u) ∧ va_P (dC, dI) vwCl [(h0, .inr (8, oX5 v_start v_count (.ref h2) (.ref h3) (.ref h4) (.ref h1) (.ref h5))), (h1, .inl (k0, 512, .inl v_nexts))] t.heap ∧ va_D A [(h0, .inr (8, oX5 v_start v_count (.ref h2) (.ref h3) (.ref h4) (.ref h1) (.ref h5))), (h1, .inl (k0, 512, .inl v_nexts))]) A) ([.ref h0, .int p1]).toArray s 0 0 A := ⟨_, rfl⟩
  show W p l e ({ frames := 0, cells := 0, slots := 0, locals := 0 } : Room) s m ([.ref h0, .int p1]).toArray below meth c s.heap [] 0 0 (MQ below (va_Qi (fun (r u : Int32) => r = u) (fun (u : Int32) (t : State) => (Q u) ∧ va_P (dC, dI) vwCl [(h0, .inr (8, oX5 v_start v_count (.ref h2) (.ref h3) (.ref h4) (.ref h1) (.ref h5))), (h1, .inl (k0, 512, .inl v_nexts))] t.heap ∧ va_D A [(h0, .inr (8, oX5 v_start v_count (.ref h2) (.ref h3) (.ref h4) (.ref h1) (.ref h5))), (h1, .inl (k0, 512, .inl v_nexts))]) A) ([.ref h0, .int p1]).toArray s 0 0 A) (F0 m 0 ls [])
  rw [← hQQ]
  unfold w_X5_nextOf at w
  refine lv_iload_n hx hb dX5_nextOf_0 rfl (lv_at hl 1 rfl) ?_
  have k_22 : ∀ (s0_22 : Int32), ∀ (H_b22 : Heap) (locs_b22 : List Loc) (ls_b22 : Array Slot), w_X5_nextOf_22 Q s0_22 → va_P (dC, dI) vwCl [(h0, .inr (8, oX5 v_start v_count (.ref h2) (.ref h3) (.ref h4) (.ref h1) (.ref h5))), (h1, .inl (k0, 512, .inl v_nexts))] H_b22 → va_D A [(h0, .inr (8, oX5 v_start v_count (.ref h2) (.ref h3) (.ref h4) (.ref h1) (.ref h5))), (h1, .inl (k0, 512, .inl v_nexts))] → va_S A s.heap H_b22 locs_b22 → lv_has ls_b22 2 [] → W p l e ({ frames := 0, cells := 0, slots := 0, locals := 0 } : Room) s m ([.ref h0, .int p1]).toArray below meth c H_b22 locs_b22 0 0 QQ (F0 m 22 ls_b22 [.int s0_22]) := by
    intro s0_22 H_b22 locs_b22 ls_b22 w_b22 hP_b22 hD_b22 hS_b22 hl_b22
    unfold w_X5_nextOf_22 at w_b22
    rw [hQQ]
    exact W.iret (v := s0_22) hx hb hr (fun t9 ht9 hW9 => ⟨⟨s0_22, s0_22, rfl, rfl, ⟨w_b22, by rw [ht9]; exact hP_b22, hD_b22⟩⟩, hS_b22.F ht9⟩) hS_b22.2.2 dX5_nextOf_22
  have k_21 : ∀ (H_b21 : Heap) (locs_b21 : List Loc) (ls_b21 : Array Slot), w_X5_nextOf_21 Q → va_P (dC, dI) vwCl [(h0, .inr (8, oX5 v_start v_count (.ref h2) (.ref h3) (.ref h4) (.ref h1) (.ref h5))), (h1, .inl (k0, 512, .inl v_nexts))] H_b21 → va_D A [(h0, .inr (8, oX5 v_start v_count (.ref h2) (.ref h3) (.ref h4) (.ref h1) (.ref h5))), (h1, .inl (k0, 512, .inl v_nexts))] → va_S A s.heap H_b21 locs_b21 → lv_has ls_b21 2 [] → W p l e ({ frames := 0, cells := 0, slots := 0, locals := 0 } : Room) s m ([.ref h0, .int p1]).toArray below meth c H_b21 locs_b21 0 0 QQ (F0 m 21 ls_b21 []) := by
    intro  H_b21 locs_b21 ls_b21 w_b21 hP_b21 hD_b21 hS_b21 hl_b21
    unfold w_X5_nextOf_21 at w_b21
    refine lv_iconst (v := (-1)) hx hb dX5_nextOf_21 (by decide) ?_
    exact k_22 (-1) _ _ _ w_b21 hP_b21 hD_b21 hS_b21 (lv_sub hl_b21 [] rfl)
  refine lv_if_lt (tgt := 21) hx hb dX5_nextOf_1 (by decide) (fun c_1 => ?_) (fun c_1 => ?_)
  · exact k_21  _ _ _ (w.1 c_1) hP hD hS (lv_sub hl [] rfl)
  · refine lv_iload_n hx hb dX5_nextOf_4 rfl (lv_at hl 1 rfl) ?_
    refine lv_aload_n hx hb dX5_nextOf_5 rfl (lv_at hl 0 rfl) ?_
    refine va_get (D := (dC, dI)) (ci := 8) (v := .int v_count) (C := RX5) (T := TX5) (N := 7) hx hb ht inX5 hown hK hP 0 rfl rfl 1 (by decide) (ht _ tw_596) (fun _ h9 => h9) rfl dX5_nextOf_6 ?_
    refine lv_icmp_ge (tgt := 21) hx hb dX5_nextOf_9 (by decide) (fun c_2 => ?_) (fun c_2 => ?_)
    · exact k_21  _ _ _ ((w.2 c_1).1 c_2) hP hD hS (lv_sub hl [] rfl)
    · refine lv_aload_n hx hb dX5_nextOf_12 rfl (lv_at hl 0 rfl) ?_
      refine va_get (D := (dC, dI)) (ci := 8) (v := .ref h1) (C := RX5) (T := TX5) (N := 7) hx hb ht inX5 hown hK hP 0 rfl rfl 5 (by decide) (ht _ tw_600) (fun _ h9 => h9) rfl dX5_nextOf_13 ?_
      refine lv_iload_n hx hb dX5_nextOf_16 rfl (lv_at hl 1 rfl) ?_
      refine va_iald hx hb hK hP 1 0 rfl rfl (i := p1) ((w.2 c_1).2 c_2).1 dX5_nextOf_17 ?_
      refine lv_topi (fun x_3 ex_3 => ?_)
      have ex_3 : x_3 = v_nexts p1.toNatClampNeg := ex_3
      refine lv_goto (tgt := 22) hx hb dX5_nextOf_18 (by decide) ?_
      exact k_22 x_3 _ _ _ ((((w.2 c_1).2 c_2).2) x_3 ex_3) hP hD hS (lv_sub hl [] rfl)
def w_X5_otherOf_22 (Q : Int32 → Prop) (s0_22 : Int32) : Prop :=
  Q s0_22
def w_X5_otherOf_21 (Q : Int32 → Prop) : Prop :=
  w_X5_otherOf_22 Q (-1)
def w_X5_otherOf (p1 : Int32) (v_count : Int32) (v_others : Nat → Int32) (Q : Int32 → Prop) : Prop :=
  ((p1 < 0) → w_X5_otherOf_21 Q) ∧ ((¬ p1 < 0) → ((v_count ≤ p1) → w_X5_otherOf_21 Q) ∧ ((¬ v_count ≤ p1) → vp_in p1 512 ∧ ∀ x_3 : Int32, x_3 = v_others p1.toNatClampNeg → w_X5_otherOf_22 Q x_3))
set_option maxHeartbeats 4000000 in
set_option maxRecDepth 100000 in
theorem mt_X5_otherOf (l : Launch) (dC : Nat → ClassId) (dI : Nat → Nat → Nat) (h0 h1 h2 h3 h4 h5 : Nat) (k0 : ClassId) (p1 : Int32) (v_start : Int32) (v_count : Int32) (v_others : Nat → Int32) (Q : Int32 → Prop) (w : w_X5_otherOf p1 v_count v_others Q) (sz : Nat) : Met l yX5_otherOf (WS yX5_otherOf cX5_otherOf 2 (some (.int))) ({ frames := 0, cells := 0, slots := 0, locals := 0 } : Room) (va_Pc [.ref h0, .int p1] (fun U => U.heap.size = sz ∧ va_P (dC, dI) vwCl [(h0, .inr (8, oX5 v_start v_count (.ref h2) (.ref h3) (.ref h4) (.ref h5) (.ref h1))), (h1, .inl (k0, 512, .inl v_others))] U.heap ∧ va_K (dC, dI) vwCl [(k0, .int)] U ∧ va_D (fun _ => True) [(h0, .inr (8, oX5 v_start v_count (.ref h2) (.ref h3) (.ref h4) (.ref h5) (.ref h1))), (h1, .inl (k0, 512, .inl v_others))])) (va_Qi (fun (r u : Int32) => r = u) (fun (u : Int32) (t : State) => (Q u) ∧ va_P (dC, dI) vwCl [(h0, .inr (8, oX5 v_start v_count (.ref h2) (.ref h3) (.ref h4) (.ref h5) (.ref h1))), (h1, .inl (k0, 512, .inl v_others))] t.heap ∧ va_D (va_A [(h0, .inr (8, oX5 v_start v_count (.ref h2) (.ref h3) (.ref h4) (.ref h5) (.ref h1))), (h1, .inl (k0, 512, .inl v_others))] sz) [(h0, .inr (8, oX5 v_start v_count (.ref h2) (.ref h3) (.ref h4) (.ref h5) (.ref h1))), (h1, .inl (k0, 512, .inl v_others))]) (va_A [(h0, .inr (8, oX5 v_start v_count (.ref h2) (.ref h3) (.ref h4) (.ref h5) (.ref h1))), (h1, .inl (k0, 512, .inl v_others))] sz)) 0 0 (va_A [(h0, .inr (8, oX5 v_start v_count (.ref h2) (.ref h3) (.ref h4) (.ref h5) (.ref h1))), (h1, .inl (k0, 512, .inl v_others))] sz) := by
  refine Met.ofW (cc := cX5_otherOf) (maxL := 2) (ret := (some (.int))) (by decide) rfl ?_
  intro p e s m args below meth c s₁ B hml hv
  obtain ⟨rfl, hsz, hP, hK, hD0⟩ := hv
  have hx := B.exec
  have hb := B.bytes
  have hr := B.returns
  have hts := atoms_spec (ws := WS yX5_otherOf cX5_otherOf 2 (some (.int))) B.pre
  have ht : ∀ w ∈ TW, w.before _ s = true := fun w h => hts w (List.mem_cons_of_mem _ h)
  have hown : s.vm.findClass "PatternWorkshop$Program" = some m.cls := findClass_of_methodNamed B.named
  have hlocks := B.notSynchronized
  subst hsz
  have hD := hD0.self (sz := s.heap.size)
  generalize hAe : va_A [(h0, .inr (8, oX5 v_start v_count (.ref h2) (.ref h3) (.ref h4) (.ref h5) (.ref h1))), (h1, .inl (k0, 512, .inl v_others))] s.heap.size = A at hD ⊢
  have hA : ∀ q : Nat, s.heap.size ≤ q → A q := fun q h => by rw [← hAe]; exact Or.inr h
  have hS : va_S A s.heap s.heap [] := va_S.rf
  have hP : va_P (dC, dI) vwCl [(h0, .inr (8, oX5 v_start v_count (.ref h2) (.ref h3) (.ref h4) (.ref h5) (.ref h1))), (h1, .inl (k0, 512, .inl v_others))] s.heap := hP
  have hl := lv_entry ([.ref h0, .int p1]) (n := 2) (Nat.le_of_ble_eq_true rfl)
  rw [lg_entry_eq]
  generalize (lg_sl ([.ref h0, .int p1]) ++ List.replicate (2 - (lg_sl ([.ref h0, .int p1])).length) Slot.unset).toArray = ls at hl ⊢
  have hl : lv_has ls 2 [(0, .ref h0), (1, .int p1)] := hl
  clear hD0
  obtain ⟨QQ, hQQ⟩ : ∃ QQ, QQ = MQ below (va_Qi (fun (r u : Int32) => r = u) (fun (u : Int32) (t : State) => (Q u) ∧ va_P (dC, dI) vwCl [(h0, .inr (8, oX5 v_start v_count (.ref h2) (.ref h3) (.ref h4) (.ref h5) (.ref h1))), (h1, .inl (k0, 512, .inl v_others))] t.heap ∧ va_D A [(h0, .inr (8, oX5 v_start v_count (.ref h2) (.ref h3) (.ref h4) (.ref h5) (.ref h1))), (h1, .inl (k0, 512, .inl v_others))]) A) ([.ref h0, .int p1]).toArray s 0 0 A := ⟨_, rfl⟩
  show W p l e ({ frames := 0, cells := 0, slots := 0, locals := 0 } : Room) s m ([.ref h0, .int p1]).toArray below meth c s.heap [] 0 0 (MQ below (va_Qi (fun (r u : Int32) => r = u) (fun (u : Int32) (t : State) => (Q u) ∧ va_P (dC, dI) vwCl [(h0, .inr (8, oX5 v_start v_count (.ref h2) (.ref h3) (.ref h4) (.ref h5) (.ref h1))), (h1, .inl (k0, 512, .inl v_others))] t.heap ∧ va_D A [(h0, .inr (8, oX5 v_start v_count (.ref h2) (.ref h3) (.ref h4) (.ref h5) (.ref h1))), (h1, .inl (k0, 512, .inl v_others))]) A) ([.ref h0, .int p1]).toArray s 0 0 A) (F0 m 0 ls [])
  rw [← hQQ]
  unfold w_X5_otherOf at w
  refine lv_iload_n hx hb dX5_otherOf_0 rfl (lv_at hl 1 rfl) ?_
  have k_22 : ∀ (s0_22 : Int32), ∀ (H_b22 : Heap) (locs_b22 : List Loc) (ls_b22 : Array Slot), w_X5_otherOf_22 Q s0_22 → va_P (dC, dI) vwCl [(h0, .inr (8, oX5 v_start v_count (.ref h2) (.ref h3) (.ref h4) (.ref h5) (.ref h1))), (h1, .inl (k0, 512, .inl v_others))] H_b22 → va_D A [(h0, .inr (8, oX5 v_start v_count (.ref h2) (.ref h3) (.ref h4) (.ref h5) (.ref h1))), (h1, .inl (k0, 512, .inl v_others))] → va_S A s.heap H_b22 locs_b22 → lv_has ls_b22 2 [] → W p l e ({ frames := 0, cells := 0, slots := 0, locals := 0 } : Room) s m ([.ref h0, .int p1]).toArray below meth c H_b22 locs_b22 0 0 QQ (F0 m 22 ls_b22 [.int s0_22]) := by
    intro s0_22 H_b22 locs_b22 ls_b22 w_b22 hP_b22 hD_b22 hS_b22 hl_b22
    unfold w_X5_otherOf_22 at w_b22
    rw [hQQ]
    exact W.iret (v := s0_22) hx hb hr (fun t9 ht9 hW9 => ⟨⟨s0_22, s0_22, rfl, rfl, ⟨w_b22, by rw [ht9]; exact hP_b22, hD_b22⟩⟩, hS_b22.F ht9⟩) hS_b22.2.2 dX5_otherOf_22
  have k_21 : ∀ (H_b21 : Heap) (locs_b21 : List Loc) (ls_b21 : Array Slot), w_X5_otherOf_21 Q → va_P (dC, dI) vwCl [(h0, .inr (8, oX5 v_start v_count (.ref h2) (.ref h3) (.ref h4) (.ref h5) (.ref h1))), (h1, .inl (k0, 512, .inl v_others))] H_b21 → va_D A [(h0, .inr (8, oX5 v_start v_count (.ref h2) (.ref h3) (.ref h4) (.ref h5) (.ref h1))), (h1, .inl (k0, 512, .inl v_others))] → va_S A s.heap H_b21 locs_b21 → lv_has ls_b21 2 [] → W p l e ({ frames := 0, cells := 0, slots := 0, locals := 0 } : Room) s m ([.ref h0, .int p1]).toArray below meth c H_b21 locs_b21 0 0 QQ (F0 m 21 ls_b21 []) := by
    intro  H_b21 locs_b21 ls_b21 w_b21 hP_b21 hD_b21 hS_b21 hl_b21
    unfold w_X5_otherOf_21 at w_b21
    refine lv_iconst (v := (-1)) hx hb dX5_otherOf_21 (by decide) ?_
    exact k_22 (-1) _ _ _ w_b21 hP_b21 hD_b21 hS_b21 (lv_sub hl_b21 [] rfl)
  refine lv_if_lt (tgt := 21) hx hb dX5_otherOf_1 (by decide) (fun c_1 => ?_) (fun c_1 => ?_)
  · exact k_21  _ _ _ (w.1 c_1) hP hD hS (lv_sub hl [] rfl)
  · refine lv_iload_n hx hb dX5_otherOf_4 rfl (lv_at hl 1 rfl) ?_
    refine lv_aload_n hx hb dX5_otherOf_5 rfl (lv_at hl 0 rfl) ?_
    refine va_get (D := (dC, dI)) (ci := 8) (v := .int v_count) (C := RX5) (T := TX5) (N := 7) hx hb ht inX5 hown hK hP 0 rfl rfl 1 (by decide) (ht _ tw_596) (fun _ h9 => h9) rfl dX5_otherOf_6 ?_
    refine lv_icmp_ge (tgt := 21) hx hb dX5_otherOf_9 (by decide) (fun c_2 => ?_) (fun c_2 => ?_)
    · exact k_21  _ _ _ ((w.2 c_1).1 c_2) hP hD hS (lv_sub hl [] rfl)
    · refine lv_aload_n hx hb dX5_otherOf_12 rfl (lv_at hl 0 rfl) ?_
      refine va_get (D := (dC, dI)) (ci := 8) (v := .ref h1) (C := RX5) (T := TX5) (N := 7) hx hb ht inX5 hown hK hP 0 rfl rfl 6 (by decide) (ht _ tw_601) (fun _ h9 => h9) rfl dX5_otherOf_13 ?_
      refine lv_iload_n hx hb dX5_otherOf_16 rfl (lv_at hl 1 rfl) ?_
      refine va_iald hx hb hK hP 1 0 rfl rfl (i := p1) ((w.2 c_1).2 c_2).1 dX5_otherOf_17 ?_
      refine lv_topi (fun x_3 ex_3 => ?_)
      have ex_3 : x_3 = v_others p1.toNatClampNeg := ex_3
      refine lv_goto (tgt := 22) hx hb dX5_otherOf_18 (by decide) ?_
      exact k_22 x_3 _ _ _ ((((w.2 c_1).2 c_2).2) x_3 ex_3) hP hD hS (lv_sub hl [] rfl)
def w_X5_add (p1 : Int32) (p2 : Int32) (p3 : Int32) (p4 : Int32) (v_count : Int32) (v_kinds : Nat → Int32) (v_subjects : Nat → Int32) (v_nexts : Nat → Int32) (v_others : Nat → Int32) (Q : Int32 → Int32 → (Nat → Int32) → (Nat → Int32) → (Nat → Int32) → (Nat → Int32) → Prop) : Prop :=
  ((v_count < 512) → ∀ x_3 : Int32, x_3 = v_count + (1 : Int32) → vp_in v_count 512 ∧ ∀ g_5 : Nat → Int32, g_5 = upd v_kinds v_count.toNatClampNeg p1 → vp_in v_count 512 ∧ ∀ g_6 : Nat → Int32, g_6 = upd v_subjects v_count.toNatClampNeg p2 → vp_in v_count 512 ∧ ∀ g_8 : Nat → Int32, g_8 = upd v_nexts v_count.toNatClampNeg p3 → vp_in v_count 512 ∧ ∀ g_9 : Nat → Int32, g_9 = upd v_others v_count.toNatClampNeg p4 → Q v_count x_3 g_5 g_6 g_8 g_9) ∧ ((¬ v_count < 512) → Q p3 v_count v_kinds v_subjects v_nexts v_others)
set_option maxHeartbeats 4000000 in
set_option maxRecDepth 100000 in
theorem mt_X5_add (l : Launch) (dC : Nat → ClassId) (dI : Nat → Nat → Nat) (h0 h1 h2 h3 h4 h5 : Nat) (k0 k1 k2 k3 : ClassId) (p1 : Int32) (p2 : Int32) (p3 : Int32) (p4 : Int32) (v_start : Int32) (v_count : Int32) (v_kinds : Nat → Int32) (v_subjects : Nat → Int32) (v_nexts : Nat → Int32) (v_others : Nat → Int32) (Q : Int32 → Int32 → (Nat → Int32) → (Nat → Int32) → (Nat → Int32) → (Nat → Int32) → Prop) (w : w_X5_add p1 p2 p3 p4 v_count v_kinds v_subjects v_nexts v_others Q) (sz : Nat) : Met l yX5_add (WS yX5_add cX5_add 6 (some (.int))) ({ frames := 0, cells := 0, slots := 0, locals := 0 } : Room) (va_Pc [.ref h0, .int p1, .int p2, .int p3, .int p4] (fun U => U.heap.size = sz ∧ va_P (dC, dI) vwCl [(h0, .inr (8, oX5 v_start v_count (.ref h5) (.ref h1) (.ref h2) (.ref h3) (.ref h4))), (h1, .inl (k0, 512, .inl v_kinds)), (h2, .inl (k1, 512, .inl v_subjects)), (h3, .inl (k2, 512, .inl v_nexts)), (h4, .inl (k3, 512, .inl v_others))] U.heap ∧ va_K (dC, dI) vwCl [(k0, .int), (k1, .int), (k2, .int), (k3, .int)] U ∧ va_D (fun _ => True) [(h0, .inr (8, oX5 v_start v_count (.ref h5) (.ref h1) (.ref h2) (.ref h3) (.ref h4))), (h1, .inl (k0, 512, .inl v_kinds)), (h2, .inl (k1, 512, .inl v_subjects)), (h3, .inl (k2, 512, .inl v_nexts)), (h4, .inl (k3, 512, .inl v_others))])) (va_Qi (fun (r u : Int32) => r = u) (fun (u : Int32) (t : State) => ∃ (ov_count : Int32), ∃ (ov_kinds : Nat → Int32), ∃ (ov_subjects : Nat → Int32), ∃ (ov_nexts : Nat → Int32), ∃ (ov_others : Nat → Int32), (Q u ov_count ov_kinds ov_subjects ov_nexts ov_others) ∧ va_P (dC, dI) vwCl [(h0, .inr (8, oX5 v_start ov_count (.ref h5) (.ref h1) (.ref h2) (.ref h3) (.ref h4))), (h1, .inl (k0, 512, .inl ov_kinds)), (h2, .inl (k1, 512, .inl ov_subjects)), (h3, .inl (k2, 512, .inl ov_nexts)), (h4, .inl (k3, 512, .inl ov_others))] t.heap ∧ va_D (va_A [(h0, .inr (8, oX5 v_start v_count (.ref h5) (.ref h1) (.ref h2) (.ref h3) (.ref h4))), (h1, .inl (k0, 512, .inl v_kinds)), (h2, .inl (k1, 512, .inl v_subjects)), (h3, .inl (k2, 512, .inl v_nexts)), (h4, .inl (k3, 512, .inl v_others))] sz) [(h0, .inr (8, oX5 v_start ov_count (.ref h5) (.ref h1) (.ref h2) (.ref h3) (.ref h4))), (h1, .inl (k0, 512, .inl ov_kinds)), (h2, .inl (k1, 512, .inl ov_subjects)), (h3, .inl (k2, 512, .inl ov_nexts)), (h4, .inl (k3, 512, .inl ov_others))]) (va_A [(h0, .inr (8, oX5 v_start v_count (.ref h5) (.ref h1) (.ref h2) (.ref h3) (.ref h4))), (h1, .inl (k0, 512, .inl v_kinds)), (h2, .inl (k1, 512, .inl v_subjects)), (h3, .inl (k2, 512, .inl v_nexts)), (h4, .inl (k3, 512, .inl v_others))] sz)) 0 0 (va_A [(h0, .inr (8, oX5 v_start v_count (.ref h5) (.ref h1) (.ref h2) (.ref h3) (.ref h4))), (h1, .inl (k0, 512, .inl v_kinds)), (h2, .inl (k1, 512, .inl v_subjects)), (h3, .inl (k2, 512, .inl v_nexts)), (h4, .inl (k3, 512, .inl v_others))] sz) := by
  refine Met.ofW (cc := cX5_add) (maxL := 6) (ret := (some (.int))) (by decide) rfl ?_
  intro p e s m args below meth c s₁ B hml hv
  obtain ⟨rfl, hsz, hP, hK, hD0⟩ := hv
  have hx := B.exec
  have hb := B.bytes
  have hr := B.returns
  have hts := atoms_spec (ws := WS yX5_add cX5_add 6 (some (.int))) B.pre
  have ht : ∀ w ∈ TW, w.before _ s = true := fun w h => hts w (List.mem_cons_of_mem _ h)
  have hown : s.vm.findClass "PatternWorkshop$Program" = some m.cls := findClass_of_methodNamed B.named
  have hlocks := B.notSynchronized
  subst hsz
  have hD := hD0.self (sz := s.heap.size)
  generalize hAe : va_A [(h0, .inr (8, oX5 v_start v_count (.ref h5) (.ref h1) (.ref h2) (.ref h3) (.ref h4))), (h1, .inl (k0, 512, .inl v_kinds)), (h2, .inl (k1, 512, .inl v_subjects)), (h3, .inl (k2, 512, .inl v_nexts)), (h4, .inl (k3, 512, .inl v_others))] s.heap.size = A at hD ⊢
  have hA : ∀ q : Nat, s.heap.size ≤ q → A q := fun q h => by rw [← hAe]; exact Or.inr h
  have hS : va_S A s.heap s.heap [] := va_S.rf
  have hP : va_P (dC, dI) vwCl [(h0, .inr (8, oX5 v_start v_count (.ref h5) (.ref h1) (.ref h2) (.ref h3) (.ref h4))), (h1, .inl (k0, 512, .inl v_kinds)), (h2, .inl (k1, 512, .inl v_subjects)), (h3, .inl (k2, 512, .inl v_nexts)), (h4, .inl (k3, 512, .inl v_others))] s.heap := hP
  have hl := lv_entry ([.ref h0, .int p1, .int p2, .int p3, .int p4]) (n := 6) (Nat.le_of_ble_eq_true rfl)
  rw [lg_entry_eq]
  generalize (lg_sl ([.ref h0, .int p1, .int p2, .int p3, .int p4]) ++ List.replicate (6 - (lg_sl ([.ref h0, .int p1, .int p2, .int p3, .int p4])).length) Slot.unset).toArray = ls at hl ⊢
  have hl : lv_has ls 6 [(0, .ref h0), (1, .int p1), (2, .int p2), (3, .int p3), (4, .int p4)] := hl
  clear hD0
  obtain ⟨QQ, hQQ⟩ : ∃ QQ, QQ = MQ below (va_Qi (fun (r u : Int32) => r = u) (fun (u : Int32) (t : State) => ∃ (ov_count : Int32), ∃ (ov_kinds : Nat → Int32), ∃ (ov_subjects : Nat → Int32), ∃ (ov_nexts : Nat → Int32), ∃ (ov_others : Nat → Int32), (Q u ov_count ov_kinds ov_subjects ov_nexts ov_others) ∧ va_P (dC, dI) vwCl [(h0, .inr (8, oX5 v_start ov_count (.ref h5) (.ref h1) (.ref h2) (.ref h3) (.ref h4))), (h1, .inl (k0, 512, .inl ov_kinds)), (h2, .inl (k1, 512, .inl ov_subjects)), (h3, .inl (k2, 512, .inl ov_nexts)), (h4, .inl (k3, 512, .inl ov_others))] t.heap ∧ va_D A [(h0, .inr (8, oX5 v_start ov_count (.ref h5) (.ref h1) (.ref h2) (.ref h3) (.ref h4))), (h1, .inl (k0, 512, .inl ov_kinds)), (h2, .inl (k1, 512, .inl ov_subjects)), (h3, .inl (k2, 512, .inl ov_nexts)), (h4, .inl (k3, 512, .inl ov_others))]) A) ([.ref h0, .int p1, .int p2, .int p3, .int p4]).toArray s 0 0 A := ⟨_, rfl⟩
  show W p l e ({ frames := 0, cells := 0, slots := 0, locals := 0 } : Room) s m ([.ref h0, .int p1, .int p2, .int p3, .int p4]).toArray below meth c s.heap [] 0 0 (MQ below (va_Qi (fun (r u : Int32) => r = u) (fun (u : Int32) (t : State) => ∃ (ov_count : Int32), ∃ (ov_kinds : Nat → Int32), ∃ (ov_subjects : Nat → Int32), ∃ (ov_nexts : Nat → Int32), ∃ (ov_others : Nat → Int32), (Q u ov_count ov_kinds ov_subjects ov_nexts ov_others) ∧ va_P (dC, dI) vwCl [(h0, .inr (8, oX5 v_start ov_count (.ref h5) (.ref h1) (.ref h2) (.ref h3) (.ref h4))), (h1, .inl (k0, 512, .inl ov_kinds)), (h2, .inl (k1, 512, .inl ov_subjects)), (h3, .inl (k2, 512, .inl ov_nexts)), (h4, .inl (k3, 512, .inl ov_others))] t.heap ∧ va_D A [(h0, .inr (8, oX5 v_start ov_count (.ref h5) (.ref h1) (.ref h2) (.ref h3) (.ref h4))), (h1, .inl (k0, 512, .inl ov_kinds)), (h2, .inl (k1, 512, .inl ov_subjects)), (h3, .inl (k2, 512, .inl ov_nexts)), (h4, .inl (k3, 512, .inl ov_others))]) A) ([.ref h0, .int p1, .int p2, .int p3, .int p4]).toArray s 0 0 A) (F0 m 0 ls [])
  rw [← hQQ]
  unfold w_X5_add at w
  refine lv_aload_n hx hb dX5_add_0 rfl (lv_at hl 0 rfl) ?_
  refine va_get (D := (dC, dI)) (ci := 8) (v := .int v_count) (C := RX5) (T := TX5) (N := 7) hx hb ht inX5 hown hK hP 0 rfl rfl 1 (by decide) (ht _ tw_596) (fun _ h9 => h9) rfl dX5_add_1 ?_
  refine lv_sipush (v := 512) hx hb dX5_add_4 (by decide) ?_
  refine lv_icmp_lt (tgt := 12) hx hb dX5_add_7 (by decide) (fun c_1 => ?_) (fun c_1 => ?_)
  · refine lv_aload_n hx hb dX5_add_12 rfl (lv_at hl 0 rfl) ?_
    refine va_get (D := (dC, dI)) (ci := 8) (v := .int v_count) (C := RX5) (T := TX5) (N := 7) hx hb ht inX5 hown hK hP 0 rfl rfl 1 (by decide) (ht _ tw_596) (fun _ h9 => h9) rfl dX5_add_13 ?_
    refine lv_istore (lv' := [(5, .int v_count), (0, .ref h0), (1, .int p1), (2, .int p2), (3, .int p3), (4, .int p4)]) hx hb dX5_add_16 hl (by decide) rfl (fun ls_2 hl_2 => ?_)
    clear hl
    refine lv_aload_n hx hb dX5_add_18 rfl (lv_at hl_2 1 rfl) ?_
    refine lv_dup hx hb dX5_add_19 rfl ?_
    refine va_get (D := (dC, dI)) (ci := 8) (v := .int v_count) (C := RX5) (T := TX5) (N := 7) hx hb ht inX5 hown hK hP 0 rfl rfl 1 (by decide) (ht _ tw_596) (fun _ h9 => h9) rfl dX5_add_20 ?_
    refine lv_iconst (v := 1) hx hb dX5_add_23 (by decide) ?_
    refine lv_iadd hx hb dX5_add_24 ?_
    refine lv_topi (fun x_3 ex_3 => ?_)
    have ex_3 : x_3 = v_count + (1 : Int32) := ex_3
    refine va_put (D := (dC, dI)) (ci := 8) (v := .int x_3) (ty := .int) (C := RX5) (T := TX5) (N := 7) hx hb ht inX5 tyX5 tyX5_ok nmX5 hown hK hP hD hS 0 rfl rfl 1 (by decide) (ht _ tw_596) (fun _ h9 => h9) rfl (by decide +kernel) rfl rfl (Nat.le_of_ble_eq_true rfl) dX5_add_25 (fun H_4 locs_4 hP_4 hD_4 hS_4 => ?_)
    have hP_4 : va_P (dC, dI) vwCl [(h0, .inr (8, oX5 v_start x_3 (.ref h5) (.ref h1) (.ref h2) (.ref h3) (.ref h4))), (h1, .inl (k0, 512, .inl v_kinds)), (h2, .inl (k1, 512, .inl v_subjects)), (h3, .inl (k2, 512, .inl v_nexts)), (h4, .inl (k3, 512, .inl v_others))] H_4 := hP_4
    have hD_4 : va_D A [(h0, .inr (8, oX5 v_start x_3 (.ref h5) (.ref h1) (.ref h2) (.ref h3) (.ref h4))), (h1, .inl (k0, 512, .inl v_kinds)), (h2, .inl (k1, 512, .inl v_subjects)), (h3, .inl (k2, 512, .inl v_nexts)), (h4, .inl (k3, 512, .inl v_others))] := hD_4
    refine lv_aload_n hx hb dX5_add_28 rfl (lv_at hl_2 1 rfl) ?_
    refine va_get (D := (dC, dI)) (ci := 8) (v := .ref h1) (C := RX5) (T := TX5) (N := 7) hx hb ht inX5 hown hK hP_4 0 rfl rfl 3 (by decide) (ht _ tw_598) (fun _ h9 => h9) rfl dX5_add_29 ?_
    refine lv_iload hx hb dX5_add_32 (lv_at hl_2 0 rfl) ?_
    refine lv_iload_n hx hb dX5_add_34 rfl (lv_at hl_2 2 rfl) ?_
    refine va_iast hx hb hK hP_4 hD_4 hS_4 1 0 rfl rfl (i := v_count) (w.1 c_1 x_3 ex_3).1 dX5_add_35 (fun H_5 locs_5 hP_5 hD_5 hS_5 => ?_)
    obtain ⟨g_5, hg_5⟩ : ∃ g : Nat → Int32, g = upd v_kinds v_count.toNatClampNeg p1 := ⟨_, rfl⟩
    have hP_5 : va_P (dC, dI) vwCl [(h0, .inr (8, oX5 v_start x_3 (.ref h5) (.ref h1) (.ref h2) (.ref h3) (.ref h4))), (h1, .inl (k0, 512, .inl g_5)), (h2, .inl (k1, 512, .inl v_subjects)), (h3, .inl (k2, 512, .inl v_nexts)), (h4, .inl (k3, 512, .inl v_others))] H_5 := by rw [hg_5]; exact hP_5
    have hD_5 : va_D A [(h0, .inr (8, oX5 v_start x_3 (.ref h5) (.ref h1) (.ref h2) (.ref h3) (.ref h4))), (h1, .inl (k0, 512, .inl g_5)), (h2, .inl (k1, 512, .inl v_subjects)), (h3, .inl (k2, 512, .inl v_nexts)), (h4, .inl (k3, 512, .inl v_others))] := by rw [hg_5]; exact hD_5
    refine lv_aload_n hx hb dX5_add_36 rfl (lv_at hl_2 1 rfl) ?_
    refine va_get (D := (dC, dI)) (ci := 8) (v := .ref h2) (C := RX5) (T := TX5) (N := 7) hx hb ht inX5 hown hK hP_5 0 rfl rfl 4 (by decide) (ht _ tw_599) (fun _ h9 => h9) rfl dX5_add_37 ?_
    refine lv_iload hx hb dX5_add_40 (lv_at hl_2 0 rfl) ?_
    refine lv_iload_n hx hb dX5_add_42 rfl (lv_at hl_2 3 rfl) ?_
    refine va_iast hx hb hK hP_5 hD_5 hS_5 2 1 rfl rfl (i := v_count) (((w.1 c_1 x_3 ex_3).2) g_5 hg_5).1 dX5_add_43 (fun H_6 locs_6 hP_6 hD_6 hS_6 => ?_)
    obtain ⟨g_6, hg_6⟩ : ∃ g : Nat → Int32, g = upd v_subjects v_count.toNatClampNeg p2 := ⟨_, rfl⟩
    have hP_6 : va_P (dC, dI) vwCl [(h0, .inr (8, oX5 v_start x_3 (.ref h5) (.ref h1) (.ref h2) (.ref h3) (.ref h4))), (h1, .inl (k0, 512, .inl g_5)), (h2, .inl (k1, 512, .inl g_6)), (h3, .inl (k2, 512, .inl v_nexts)), (h4, .inl (k3, 512, .inl v_others))] H_6 := by rw [hg_6]; exact hP_6
    have hD_6 : va_D A [(h0, .inr (8, oX5 v_start x_3 (.ref h5) (.ref h1) (.ref h2) (.ref h3) (.ref h4))), (h1, .inl (k0, 512, .inl g_5)), (h2, .inl (k1, 512, .inl g_6)), (h3, .inl (k2, 512, .inl v_nexts)), (h4, .inl (k3, 512, .inl v_others))] := by rw [hg_6]; exact hD_6
    refine lv_aload_n hx hb dX5_add_44 rfl (lv_at hl_2 1 rfl) ?_
    refine va_get (D := (dC, dI)) (ci := 8) (v := .ref h3) (C := RX5) (T := TX5) (N := 7) hx hb ht inX5 hown hK hP_6 0 rfl rfl 5 (by decide) (ht _ tw_600) (fun _ h9 => h9) rfl dX5_add_45 ?_
    refine lv_iload hx hb dX5_add_48 (lv_at hl_2 0 rfl) ?_
    refine lv_iload_n hx hb dX5_add_50 rfl (lv_at hl_2 4 rfl) ?_
    have w_7 := ((((w.1 c_1 x_3 ex_3).2) g_5 hg_5).2) g_6 hg_6
    refine va_iast hx hb hK hP_6 hD_6 hS_6 3 2 rfl rfl (i := v_count) w_7.1 dX5_add_51 (fun H_8 locs_8 hP_8 hD_8 hS_8 => ?_)
    obtain ⟨g_8, hg_8⟩ : ∃ g : Nat → Int32, g = upd v_nexts v_count.toNatClampNeg p3 := ⟨_, rfl⟩
    have hP_8 : va_P (dC, dI) vwCl [(h0, .inr (8, oX5 v_start x_3 (.ref h5) (.ref h1) (.ref h2) (.ref h3) (.ref h4))), (h1, .inl (k0, 512, .inl g_5)), (h2, .inl (k1, 512, .inl g_6)), (h3, .inl (k2, 512, .inl g_8)), (h4, .inl (k3, 512, .inl v_others))] H_8 := by rw [hg_8]; exact hP_8
    have hD_8 : va_D A [(h0, .inr (8, oX5 v_start x_3 (.ref h5) (.ref h1) (.ref h2) (.ref h3) (.ref h4))), (h1, .inl (k0, 512, .inl g_5)), (h2, .inl (k1, 512, .inl g_6)), (h3, .inl (k2, 512, .inl g_8)), (h4, .inl (k3, 512, .inl v_others))] := by rw [hg_8]; exact hD_8
    refine lv_aload_n hx hb dX5_add_52 rfl (lv_at hl_2 1 rfl) ?_
    refine va_get (D := (dC, dI)) (ci := 8) (v := .ref h4) (C := RX5) (T := TX5) (N := 7) hx hb ht inX5 hown hK hP_8 0 rfl rfl 6 (by decide) (ht _ tw_601) (fun _ h9 => h9) rfl dX5_add_53 ?_
    refine lv_iload hx hb dX5_add_56 (lv_at hl_2 0 rfl) ?_
    refine lv_iload hx hb dX5_add_58 (lv_at hl_2 5 rfl) ?_
    refine va_iast hx hb hK hP_8 hD_8 hS_8 4 3 rfl rfl (i := v_count) (w_7.2 g_8 hg_8).1 dX5_add_60 (fun H_9 locs_9 hP_9 hD_9 hS_9 => ?_)
    obtain ⟨g_9, hg_9⟩ : ∃ g : Nat → Int32, g = upd v_others v_count.toNatClampNeg p4 := ⟨_, rfl⟩
    have hP_9 : va_P (dC, dI) vwCl [(h0, .inr (8, oX5 v_start x_3 (.ref h5) (.ref h1) (.ref h2) (.ref h3) (.ref h4))), (h1, .inl (k0, 512, .inl g_5)), (h2, .inl (k1, 512, .inl g_6)), (h3, .inl (k2, 512, .inl g_8)), (h4, .inl (k3, 512, .inl g_9))] H_9 := by rw [hg_9]; exact hP_9
    have hD_9 : va_D A [(h0, .inr (8, oX5 v_start x_3 (.ref h5) (.ref h1) (.ref h2) (.ref h3) (.ref h4))), (h1, .inl (k0, 512, .inl g_5)), (h2, .inl (k1, 512, .inl g_6)), (h3, .inl (k2, 512, .inl g_8)), (h4, .inl (k3, 512, .inl g_9))] := by rw [hg_9]; exact hD_9
    refine lv_iload hx hb dX5_add_61 (lv_at hl_2 0 rfl) ?_
    rw [hQQ]
    exact W.iret (v := v_count) hx hb hr (fun t9 ht9 hW9 => ⟨⟨v_count, v_count, rfl, rfl, ⟨x_3, g_5, g_6, g_8, g_9, ((w_7.2 g_8 hg_8).2) g_9 hg_9, by rw [ht9]; exact hP_9, hD_9⟩⟩, hS_9.F ht9⟩) hS_9.2.2 dX5_add_63
  · refine lv_iload_n hx hb dX5_add_10 rfl (lv_at hl 3 rfl) ?_
    rw [hQQ]
    exact W.iret (v := p3) hx hb hr (fun t9 ht9 hW9 => ⟨⟨p3, p3, rfl, rfl, ⟨v_count, v_kinds, v_subjects, v_nexts, v_others, w.2 c_1, by rw [ht9]; exact hP, hD⟩⟩, hS.F ht9⟩) hS.2.2 dX5_add_11
def w_X5_aim_44 (Q : (Nat → Int32) → (Nat → Int32) → Prop) (v_nexts_44 : Nat → Int32) (v_others_44 : Nat → Int32) : Prop :=
  Q  v_nexts_44 v_others_44
def w_X5_aim_43 (Q : (Nat → Int32) → (Nat → Int32) → Prop) (s0_43 : Int32) (s1_43 : Int32) (v_nexts_43 : Nat → Int32) (v_others_43 : Nat → Int32) : Prop :=
  vp_in s1_43 512 ∧ ∀ g_4 : Nat → Int32, g_4 = upd v_others_43 s1_43.toNatClampNeg s0_43 → w_X5_aim_44 Q v_nexts_43 g_4
def w_X5_aim_27 (p1 : Int32) (p2 : Int32) (p3 : Int32) (p4 : Int32) (Q : (Nat → Int32) → (Nat → Int32) → Prop) (s0_27 : Int32) (s1_27 : Int32) (v_nexts_27 : Nat → Int32) (v_others_27 : Nat → Int32) : Prop :=
  vp_in s1_27 512 ∧ ∀ g_3 : Nat → Int32, g_3 = upd v_nexts_27 s1_27.toNatClampNeg s0_27 → ((p4 = 0) → w_X5_aim_43 Q p3 p1 g_3 v_others_27) ∧ ((¬ p4 = 0) → w_X5_aim_43 Q p2 p1 g_3 v_others_27)
def w_X5_aim (p1 : Int32) (p2 : Int32) (p3 : Int32) (p4 : Int32) (v_count : Int32) (v_nexts : Nat → Int32) (v_others : Nat → Int32) (Q : (Nat → Int32) → (Nat → Int32) → Prop) : Prop :=
  ((p1 < 0) → w_X5_aim_44 Q v_nexts v_others) ∧ ((¬ p1 < 0) → ((v_count ≤ p1) → w_X5_aim_44 Q v_nexts v_others) ∧ ((¬ v_count ≤ p1) → ((p4 = 0) → w_X5_aim_27 p1 p2 p3 p4 Q p2 p1 v_nexts v_others) ∧ ((¬ p4 = 0) → w_X5_aim_27 p1 p2 p3 p4 Q p3 p1 v_nexts v_others)))
set_option maxHeartbeats 4000000 in
set_option maxRecDepth 100000 in
theorem mt_X5_aim (l : Launch) (dC : Nat → ClassId) (dI : Nat → Nat → Nat) (h0 h1 h2 h3 h4 h5 : Nat) (k0 k1 : ClassId) (p1 : Int32) (p2 : Int32) (p3 : Int32) (p4 : Int32) (v_start : Int32) (v_count : Int32) (v_nexts : Nat → Int32) (v_others : Nat → Int32) (Q : (Nat → Int32) → (Nat → Int32) → Prop) (w : w_X5_aim p1 p2 p3 p4 v_count v_nexts v_others Q) (sz : Nat) : Met l yX5_aim (WS yX5_aim cX5_aim 5 none) ({ frames := 0, cells := 0, slots := 0, locals := 0 } : Room) (va_Pc [.ref h0, .int p1, .int p2, .int p3, .int p4] (fun U => U.heap.size = sz ∧ va_P (dC, dI) vwCl [(h0, .inr (8, oX5 v_start v_count (.ref h3) (.ref h4) (.ref h5) (.ref h1) (.ref h2))), (h1, .inl (k0, 512, .inl v_nexts)), (h2, .inl (k1, 512, .inl v_others))] U.heap ∧ va_K (dC, dI) vwCl [(k0, .int), (k1, .int)] U ∧ va_D (fun _ => True) [(h0, .inr (8, oX5 v_start v_count (.ref h3) (.ref h4) (.ref h5) (.ref h1) (.ref h2))), (h1, .inl (k0, 512, .inl v_nexts)), (h2, .inl (k1, 512, .inl v_others))])) (va_Qv (fun (u : Nat) => u = 0) (fun (_ : Nat) (t : State) => ∃ (ov_nexts : Nat → Int32), ∃ (ov_others : Nat → Int32), (Q ov_nexts ov_others) ∧ va_P (dC, dI) vwCl [(h0, .inr (8, oX5 v_start v_count (.ref h3) (.ref h4) (.ref h5) (.ref h1) (.ref h2))), (h1, .inl (k0, 512, .inl ov_nexts)), (h2, .inl (k1, 512, .inl ov_others))] t.heap ∧ va_D (va_A [(h0, .inr (8, oX5 v_start v_count (.ref h3) (.ref h4) (.ref h5) (.ref h1) (.ref h2))), (h1, .inl (k0, 512, .inl v_nexts)), (h2, .inl (k1, 512, .inl v_others))] sz) [(h0, .inr (8, oX5 v_start v_count (.ref h3) (.ref h4) (.ref h5) (.ref h1) (.ref h2))), (h1, .inl (k0, 512, .inl ov_nexts)), (h2, .inl (k1, 512, .inl ov_others))]) (va_A [(h0, .inr (8, oX5 v_start v_count (.ref h3) (.ref h4) (.ref h5) (.ref h1) (.ref h2))), (h1, .inl (k0, 512, .inl v_nexts)), (h2, .inl (k1, 512, .inl v_others))] sz)) 0 0 (va_A [(h0, .inr (8, oX5 v_start v_count (.ref h3) (.ref h4) (.ref h5) (.ref h1) (.ref h2))), (h1, .inl (k0, 512, .inl v_nexts)), (h2, .inl (k1, 512, .inl v_others))] sz) := by
  refine Met.ofW (cc := cX5_aim) (maxL := 5) (ret := none) (by decide) rfl ?_
  intro p e s m args below meth c s₁ B hml hv
  obtain ⟨rfl, hsz, hP, hK, hD0⟩ := hv
  have hx := B.exec
  have hb := B.bytes
  have hr := B.returns
  have hts := atoms_spec (ws := WS yX5_aim cX5_aim 5 none) B.pre
  have ht : ∀ w ∈ TW, w.before _ s = true := fun w h => hts w (List.mem_cons_of_mem _ h)
  have hown : s.vm.findClass "PatternWorkshop$Program" = some m.cls := findClass_of_methodNamed B.named
  have hlocks := B.notSynchronized
  subst hsz
  have hD := hD0.self (sz := s.heap.size)
  generalize hAe : va_A [(h0, .inr (8, oX5 v_start v_count (.ref h3) (.ref h4) (.ref h5) (.ref h1) (.ref h2))), (h1, .inl (k0, 512, .inl v_nexts)), (h2, .inl (k1, 512, .inl v_others))] s.heap.size = A at hD ⊢
  have hA : ∀ q : Nat, s.heap.size ≤ q → A q := fun q h => by rw [← hAe]; exact Or.inr h
  have hS : va_S A s.heap s.heap [] := va_S.rf
  have hP : va_P (dC, dI) vwCl [(h0, .inr (8, oX5 v_start v_count (.ref h3) (.ref h4) (.ref h5) (.ref h1) (.ref h2))), (h1, .inl (k0, 512, .inl v_nexts)), (h2, .inl (k1, 512, .inl v_others))] s.heap := hP
  have hl := lv_entry ([.ref h0, .int p1, .int p2, .int p3, .int p4]) (n := 5) (Nat.le_of_ble_eq_true rfl)
  rw [lg_entry_eq]
  generalize (lg_sl ([.ref h0, .int p1, .int p2, .int p3, .int p4]) ++ List.replicate (5 - (lg_sl ([.ref h0, .int p1, .int p2, .int p3, .int p4])).length) Slot.unset).toArray = ls at hl ⊢
  have hl : lv_has ls 5 [(0, .ref h0), (1, .int p1), (2, .int p2), (3, .int p3), (4, .int p4)] := hl
  clear hD0
  obtain ⟨QQ, hQQ⟩ : ∃ QQ, QQ = MQ below (va_Qv (fun (u : Nat) => u = 0) (fun (_ : Nat) (t : State) => ∃ (ov_nexts : Nat → Int32), ∃ (ov_others : Nat → Int32), (Q ov_nexts ov_others) ∧ va_P (dC, dI) vwCl [(h0, .inr (8, oX5 v_start v_count (.ref h3) (.ref h4) (.ref h5) (.ref h1) (.ref h2))), (h1, .inl (k0, 512, .inl ov_nexts)), (h2, .inl (k1, 512, .inl ov_others))] t.heap ∧ va_D A [(h0, .inr (8, oX5 v_start v_count (.ref h3) (.ref h4) (.ref h5) (.ref h1) (.ref h2))), (h1, .inl (k0, 512, .inl ov_nexts)), (h2, .inl (k1, 512, .inl ov_others))]) A) ([.ref h0, .int p1, .int p2, .int p3, .int p4]).toArray s 0 0 A := ⟨_, rfl⟩
  show W p l e ({ frames := 0, cells := 0, slots := 0, locals := 0 } : Room) s m ([.ref h0, .int p1, .int p2, .int p3, .int p4]).toArray below meth c s.heap [] 0 0 (MQ below (va_Qv (fun (u : Nat) => u = 0) (fun (_ : Nat) (t : State) => ∃ (ov_nexts : Nat → Int32), ∃ (ov_others : Nat → Int32), (Q ov_nexts ov_others) ∧ va_P (dC, dI) vwCl [(h0, .inr (8, oX5 v_start v_count (.ref h3) (.ref h4) (.ref h5) (.ref h1) (.ref h2))), (h1, .inl (k0, 512, .inl ov_nexts)), (h2, .inl (k1, 512, .inl ov_others))] t.heap ∧ va_D A [(h0, .inr (8, oX5 v_start v_count (.ref h3) (.ref h4) (.ref h5) (.ref h1) (.ref h2))), (h1, .inl (k0, 512, .inl ov_nexts)), (h2, .inl (k1, 512, .inl ov_others))]) A) ([.ref h0, .int p1, .int p2, .int p3, .int p4]).toArray s 0 0 A) (F0 m 0 ls [])
  rw [← hQQ]
  unfold w_X5_aim at w
  refine lv_iload_n hx hb dX5_aim_0 rfl (lv_at hl 1 rfl) ?_
  have k_44 : ∀ (v_nexts_44 : Nat → Int32) (v_others_44 : Nat → Int32), ∀ (H_b44 : Heap) (locs_b44 : List Loc) (ls_b44 : Array Slot), w_X5_aim_44 Q v_nexts_44 v_others_44 → va_P (dC, dI) vwCl [(h0, .inr (8, oX5 v_start v_count (.ref h3) (.ref h4) (.ref h5) (.ref h1) (.ref h2))), (h1, .inl (k0, 512, .inl v_nexts_44)), (h2, .inl (k1, 512, .inl v_others_44))] H_b44 → va_D A [(h0, .inr (8, oX5 v_start v_count (.ref h3) (.ref h4) (.ref h5) (.ref h1) (.ref h2))), (h1, .inl (k0, 512, .inl v_nexts_44)), (h2, .inl (k1, 512, .inl v_others_44))] → va_S A s.heap H_b44 locs_b44 → lv_has ls_b44 5 [] → W p l e ({ frames := 0, cells := 0, slots := 0, locals := 0 } : Room) s m ([.ref h0, .int p1, .int p2, .int p3, .int p4]).toArray below meth c H_b44 locs_b44 0 0 QQ (F0 m 44 ls_b44 []) := by
    intro v_nexts_44 v_others_44 H_b44 locs_b44 ls_b44 w_b44 hP_b44 hD_b44 hS_b44 hl_b44
    unfold w_X5_aim_44 at w_b44
    rw [hQQ]
    exact W.vret hx hb hr (fun t9 ht9 hW9 => ⟨⟨0, rfl, rfl, ⟨v_nexts_44, v_others_44, w_b44, by rw [ht9]; exact hP_b44, hD_b44⟩⟩, hS_b44.F ht9⟩) hS_b44.2.2 dX5_aim_44
  refine lv_if_lt (tgt := 44) hx hb dX5_aim_1 (by decide) (fun c_1 => ?_) (fun c_1 => ?_)
  · exact k_44 v_nexts v_others _ _ _ (w.1 c_1) hP hD hS (lv_sub hl [] rfl)
  · refine lv_iload_n hx hb dX5_aim_4 rfl (lv_at hl 1 rfl) ?_
    refine lv_aload_n hx hb dX5_aim_5 rfl (lv_at hl 0 rfl) ?_
    refine va_get (D := (dC, dI)) (ci := 8) (v := .int v_count) (C := RX5) (T := TX5) (N := 7) hx hb ht inX5 hown hK hP 0 rfl rfl 1 (by decide) (ht _ tw_596) (fun _ h9 => h9) rfl dX5_aim_6 ?_
    refine lv_icmp_ge (tgt := 44) hx hb dX5_aim_9 (by decide) (fun c_2 => ?_) (fun c_2 => ?_)
    · exact k_44 v_nexts v_others _ _ _ ((w.2 c_1).1 c_2) hP hD hS (lv_sub hl [] rfl)
    · refine lv_aload_n hx hb dX5_aim_12 rfl (lv_at hl 0 rfl) ?_
      refine va_get (D := (dC, dI)) (ci := 8) (v := .ref h1) (C := RX5) (T := TX5) (N := 7) hx hb ht inX5 hown hK hP 0 rfl rfl 5 (by decide) (ht _ tw_600) (fun _ h9 => h9) rfl dX5_aim_13 ?_
      refine lv_iload_n hx hb dX5_aim_16 rfl (lv_at hl 1 rfl) ?_
      refine lv_iload hx hb dX5_aim_17 (lv_at hl 4 rfl) ?_
      have k_27 : ∀ (s0_27 : Int32) (s1_27 : Int32) (v_nexts_27 : Nat → Int32) (v_others_27 : Nat → Int32), ∀ (H_b27 : Heap) (locs_b27 : List Loc) (ls_b27 : Array Slot), w_X5_aim_27 p1 p2 p3 p4 Q s0_27 s1_27 v_nexts_27 v_others_27 → va_P (dC, dI) vwCl [(h0, .inr (8, oX5 v_start v_count (.ref h3) (.ref h4) (.ref h5) (.ref h1) (.ref h2))), (h1, .inl (k0, 512, .inl v_nexts_27)), (h2, .inl (k1, 512, .inl v_others_27))] H_b27 → va_D A [(h0, .inr (8, oX5 v_start v_count (.ref h3) (.ref h4) (.ref h5) (.ref h1) (.ref h2))), (h1, .inl (k0, 512, .inl v_nexts_27)), (h2, .inl (k1, 512, .inl v_others_27))] → va_S A s.heap H_b27 locs_b27 → lv_has ls_b27 5 [(0, .ref h0), (1, .int p1), (2, .int p2), (3, .int p3), (4, .int p4)] → W p l e ({ frames := 0, cells := 0, slots := 0, locals := 0 } : Room) s m ([.ref h0, .int p1, .int p2, .int p3, .int p4]).toArray below meth c H_b27 locs_b27 0 0 QQ (F0 m 27 ls_b27 [.int s0_27, .int s1_27, .ref h1]) := by
        intro s0_27 s1_27 v_nexts_27 v_others_27 H_b27 locs_b27 ls_b27 w_b27 hP_b27 hD_b27 hS_b27 hl_b27
        unfold w_X5_aim_27 at w_b27
        refine va_iast hx hb hK hP_b27 hD_b27 hS_b27 1 0 rfl rfl (i := s1_27) w_b27.1 dX5_aim_27 (fun H_3 locs_3 hP_3 hD_3 hS_3 => ?_)
        obtain ⟨g_3, hg_3⟩ : ∃ g : Nat → Int32, g = upd v_nexts_27 s1_27.toNatClampNeg s0_27 := ⟨_, rfl⟩
        have hP_3 : va_P (dC, dI) vwCl [(h0, .inr (8, oX5 v_start v_count (.ref h3) (.ref h4) (.ref h5) (.ref h1) (.ref h2))), (h1, .inl (k0, 512, .inl g_3)), (h2, .inl (k1, 512, .inl v_others_27))] H_3 := by rw [hg_3]; exact hP_3
        have hD_3 : va_D A [(h0, .inr (8, oX5 v_start v_count (.ref h3) (.ref h4) (.ref h5) (.ref h1) (.ref h2))), (h1, .inl (k0, 512, .inl g_3)), (h2, .inl (k1, 512, .inl v_others_27))] := by rw [hg_3]; exact hD_3
        refine lv_aload_n hx hb dX5_aim_28 rfl (lv_at hl_b27 0 rfl) ?_
        refine va_get (D := (dC, dI)) (ci := 8) (v := .ref h2) (C := RX5) (T := TX5) (N := 7) hx hb ht inX5 hown hK hP_3 0 rfl rfl 6 (by decide) (ht _ tw_601) (fun _ h9 => h9) rfl dX5_aim_29 ?_
        refine lv_iload_n hx hb dX5_aim_32 rfl (lv_at hl_b27 1 rfl) ?_
        refine lv_iload hx hb dX5_aim_33 (lv_at hl_b27 4 rfl) ?_
        have k_43 : ∀ (s0_43 : Int32) (s1_43 : Int32) (v_nexts_43 : Nat → Int32) (v_others_43 : Nat → Int32), ∀ (H_b43 : Heap) (locs_b43 : List Loc) (ls_b43 : Array Slot), w_X5_aim_43 Q s0_43 s1_43 v_nexts_43 v_others_43 → va_P (dC, dI) vwCl [(h0, .inr (8, oX5 v_start v_count (.ref h3) (.ref h4) (.ref h5) (.ref h1) (.ref h2))), (h1, .inl (k0, 512, .inl v_nexts_43)), (h2, .inl (k1, 512, .inl v_others_43))] H_b43 → va_D A [(h0, .inr (8, oX5 v_start v_count (.ref h3) (.ref h4) (.ref h5) (.ref h1) (.ref h2))), (h1, .inl (k0, 512, .inl v_nexts_43)), (h2, .inl (k1, 512, .inl v_others_43))] → va_S A s.heap H_b43 locs_b43 → lv_has ls_b43 5 [] → W p l e ({ frames := 0, cells := 0, slots := 0, locals := 0 } : Room) s m ([.ref h0, .int p1, .int p2, .int p3, .int p4]).toArray below meth c H_b43 locs_b43 0 0 QQ (F0 m 43 ls_b43 [.int s0_43, .int s1_43, .ref h2]) := by
          intro s0_43 s1_43 v_nexts_43 v_others_43 H_b43 locs_b43 ls_b43 w_b43 hP_b43 hD_b43 hS_b43 hl_b43
          unfold w_X5_aim_43 at w_b43
          refine va_iast hx hb hK hP_b43 hD_b43 hS_b43 2 1 rfl rfl (i := s1_43) w_b43.1 dX5_aim_43 (fun H_4 locs_4 hP_4 hD_4 hS_4 => ?_)
          obtain ⟨g_4, hg_4⟩ : ∃ g : Nat → Int32, g = upd v_others_43 s1_43.toNatClampNeg s0_43 := ⟨_, rfl⟩
          have hP_4 : va_P (dC, dI) vwCl [(h0, .inr (8, oX5 v_start v_count (.ref h3) (.ref h4) (.ref h5) (.ref h1) (.ref h2))), (h1, .inl (k0, 512, .inl v_nexts_43)), (h2, .inl (k1, 512, .inl g_4))] H_4 := by rw [hg_4]; exact hP_4
          have hD_4 : va_D A [(h0, .inr (8, oX5 v_start v_count (.ref h3) (.ref h4) (.ref h5) (.ref h1) (.ref h2))), (h1, .inl (k0, 512, .inl v_nexts_43)), (h2, .inl (k1, 512, .inl g_4))] := by rw [hg_4]; exact hD_4
          exact k_44 v_nexts_43 g_4 _ _ _ (w_b43.2 g_4 hg_4) hP_4 hD_4 hS_4 (lv_sub hl_b43 [] rfl)
        refine lv_if_eq (tgt := 42) hx hb dX5_aim_35 (by decide) (fun c_5 => ?_) (fun c_5 => ?_)
        · refine lv_iload_n hx hb dX5_aim_42 rfl (lv_at hl_b27 3 rfl) ?_
          exact k_43 p3 p1 g_3 v_others_27 _ _ _ ((w_b27.2 g_3 hg_3).1 c_5) hP_3 hD_3 hS_3 (lv_sub hl_b27 [] rfl)
        · refine lv_iload_n hx hb dX5_aim_38 rfl (lv_at hl_b27 2 rfl) ?_
          refine lv_goto (tgt := 43) hx hb dX5_aim_39 (by decide) ?_
          exact k_43 p2 p1 g_3 v_others_27 _ _ _ ((w_b27.2 g_3 hg_3).2 c_5) hP_3 hD_3 hS_3 (lv_sub hl_b27 [] rfl)
      refine lv_if_eq (tgt := 26) hx hb dX5_aim_19 (by decide) (fun c_6 => ?_) (fun c_6 => ?_)
      · refine lv_iload_n hx hb dX5_aim_26 rfl (lv_at hl 2 rfl) ?_
        exact k_27 p2 p1 v_nexts v_others _ _ _ (((w.2 c_1).2 c_2).1 c_6) hP hD hS (lv_sub hl [0, 1, 2, 3, 4] rfl)
      · refine lv_iload_n hx hb dX5_aim_22 rfl (lv_at hl 3 rfl) ?_
        refine lv_goto (tgt := 27) hx hb dX5_aim_23 (by decide) ?_
        exact k_27 p3 p1 v_nexts v_others _ _ _ (((w.2 c_1).2 c_2).2 c_6) hP hD hS (lv_sub hl [0, 1, 2, 3, 4] rfl)
