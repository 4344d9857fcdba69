def w_X10_reset (Q : Bool → Int32 → Int32 → Int32 → Prop) : Prop :=
  Q  false 0 0 0
set_option maxHeartbeats 4000000 in
set_option maxRecDepth 100000 in
theorem mt_X10_reset (l : Launch) (dC : Nat → ClassId) (dI : Nat → Nat → Nat) (h0 h1 h2 h3 h4 h5 h6 h7 h8 h9 h10 h11 h12 h13 h14 h15 h16 : Nat) (v_there : Bool) (v_count : Int32) (v_captures : Int32) (v_ranges : Int32) (Q : Bool → Int32 → Int32 → Int32 → Prop) (w : w_X10_reset  Q) (sz : Nat) : Met l yX10_reset (WS yX10_reset cX10_reset 1 none) ({ frames := 0, cells := 0, slots := 0, locals := 0 } : Room) (va_Pc [.ref h0] (fun U => U.heap.size = sz ∧ va_P (dC, dI) vwCl [(h0, .inr (13, oX10 v_there v_count v_captures v_ranges (.ref h1) (.ref h2) (.ref h3) (.ref h4) (.ref h5) (.ref h6) (.ref h7) (.ref h8) (.ref h9) (.ref h10) (.ref h11) (.ref h12) (.ref h13) (.ref h14) (.ref h15) (.ref h16)))] U.heap ∧ va_K (dC, dI) vwCl [] U ∧ va_D (fun _ => True) [(h0, .inr (13, oX10 v_there v_count v_captures v_ranges (.ref h1) (.ref h2) (.ref h3) (.ref h4) (.ref h5) (.ref h6) (.ref h7) (.ref h8) (.ref h9) (.ref h10) (.ref h11) (.ref h12) (.ref h13) (.ref h14) (.ref h15) (.ref h16)))])) (va_Qv (fun (u : Nat) => u = 0) (fun (_ : Nat) (t : State) => ∃ (ov_there : Bool), ∃ (ov_count : Int32), ∃ (ov_captures : Int32), ∃ (ov_ranges : Int32), (Q ov_there ov_count ov_captures ov_ranges) ∧ va_P (dC, dI) vwCl [(h0, .inr (13, oX10 ov_there ov_count ov_captures ov_ranges (.ref h1) (.ref h2) (.ref h3) (.ref h4) (.ref h5) (.ref h6) (.ref h7) (.ref h8) (.ref h9) (.ref h10) (.ref h11) (.ref h12) (.ref h13) (.ref h14) (.ref h15) (.ref h16)))] t.heap ∧ va_D (va_A [(h0, .inr (13, oX10 v_there v_count v_captures v_ranges (.ref h1) (.ref h2) (.ref h3) (.ref h4) (.ref h5) (.ref h6) (.ref h7) (.ref h8) (.ref h9) (.ref h10) (.ref h11) (.ref h12) (.ref h13) (.ref h14) (.ref h15) (.ref h16)))] sz) [(h0, .inr (13, oX10 ov_there ov_count ov_captures ov_ranges (.ref h1) (.ref h2) (.ref h3) (.ref h4) (.ref h5) (.ref h6) (.ref h7) (.ref h8) (.ref h9) (.ref h10) (.ref h11) (.ref h12) (.ref h13) (.ref h14) (.ref h15) (.ref h16)))]) (va_A [(h0, .inr (13, oX10 v_there v_count v_captures v_ranges (.ref h1) (.ref h2) (.ref h3) (.ref h4) (.ref h5) (.ref h6) (.ref h7) (.ref h8) (.ref h9) (.ref h10) (.ref h11) (.ref h12) (.ref h13) (.ref h14) (.ref h15) (.ref h16)))] sz)) 0 0 (va_A [(h0, .inr (13, oX10 v_there v_count v_captures v_ranges (.ref h1) (.ref h2) (.ref h3) (.ref h4) (.ref h5) (.ref h6) (.ref h7) (.ref h8) (.ref h9) (.ref h10) (.ref h11) (.ref h12) (.ref h13) (.ref h14) (.ref h15) (.ref h16)))] sz) := by
  refine Met.ofW (cc := cX10_reset) (maxL := 1) (ret := none) (by decide) rfl ?_
  intro p e s m args below meth c s₁ B hml hv
  obtain ⟨rfl, hsz, hP, hK, hD0⟩ := hv
  have hx := B.exec
  have hb := B.bytes
  have hr := B.returns
  have hts := atoms_spec (ws := WS yX10_reset cX10_reset 1 none) B.pre
  have ht : ∀ w ∈ TW, w.before _ s = true := fun w h => hts w (List.mem_cons_of_mem _ h)
  have hown : s.vm.findClass "PatternWorkshop$Tree" = some m.cls := findClass_of_methodNamed B.named
  have hlocks := B.notSynchronized
  subst hsz
  have hD := hD0.self (sz := s.heap.size)
  generalize hAe : va_A [(h0, .inr (13, oX10 v_there v_count v_captures v_ranges (.ref h1) (.ref h2) (.ref h3) (.ref h4) (.ref h5) (.ref h6) (.ref h7) (.ref h8) (.ref h9) (.ref h10) (.ref h11) (.ref h12) (.ref h13) (.ref h14) (.ref h15) (.ref h16)))] s.heap.size = A at hD ⊢
  have hA : ∀ q : Nat, s.heap.size ≤ q → A q := fun q h => by rw [← hAe]; exact Or.inr h
  have hS : va_S A s.heap s.heap [] := va_S.rf
  have hP : va_P (dC, dI) vwCl [(h0, .inr (13, oX10 v_there v_count v_captures v_ranges (.ref h1) (.ref h2) (.ref h3) (.ref h4) (.ref h5) (.ref h6) (.ref h7) (.ref h8) (.ref h9) (.ref h10) (.ref h11) (.ref h12) (.ref h13) (.ref h14) (.ref h15) (.ref h16)))] s.heap := hP
  have hl := lv_entry ([.ref h0]) (n := 1) (Nat.le_of_ble_eq_true rfl)
  rw [lg_entry_eq]
  generalize (lg_sl ([.ref h0]) ++ List.replicate (1 - (lg_sl ([.ref h0])).length) Slot.unset).toArray = ls at hl ⊢
  have hl : lv_has ls 1 [(0, .ref h0)] := hl
  clear hD0
  obtain ⟨QQ, hQQ⟩ : ∃ QQ, QQ = MQ below (va_Qv (fun (u : Nat) => u = 0) (fun (_ : Nat) (t : State) => ∃ (ov_there : Bool), ∃ (ov_count : Int32), ∃ (ov_captures : Int32), ∃ (ov_ranges : Int32), (Q ov_there ov_count ov_captures ov_ranges) ∧ va_P (dC, dI) vwCl [(h0, .inr (13, oX10 ov_there ov_count ov_captures ov_ranges (.ref h1) (.ref h2) (.ref h3) (.ref h4) (.ref h5) (.ref h6) (.ref h7) (.ref h8) (.ref h9) (.ref h10) (.ref h11) (.ref h12) (.ref h13) (.ref h14) (.ref h15) (.ref h16)))] t.heap ∧ va_D A [(h0, .inr (13, oX10 ov_there ov_count ov_captures ov_ranges (.ref h1) (.ref h2) (.ref h3) (.ref h4) (.ref h5) (.ref h6) (.ref h7) (.ref h8) (.ref h9) (.ref h10) (.ref h11) (.ref h12) (.ref h13) (.ref h14) (.ref h15) (.ref h16)))]) A) ([.ref h0]).toArray s 0 0 A := ⟨_, rfl⟩
  show W p l e ({ frames := 0, cells := 0, slots := 0, locals := 0 } : Room) s m ([.ref h0]).toArray below meth c s.heap [] 0 0 (MQ below (va_Qv (fun (u : Nat) => u = 0) (fun (_ : Nat) (t : State) => ∃ (ov_there : Bool), ∃ (ov_count : Int32), ∃ (ov_captures : Int32), ∃ (ov_ranges : Int32), (Q ov_there ov_count ov_captures ov_ranges) ∧ va_P (dC, dI) vwCl [(h0, .inr (13, oX10 ov_there ov_count ov_captures ov_ranges (.ref h1) (.ref h2) (.ref h3) (.ref h4) (.ref h5) (.ref h6) (.ref h7) (.ref h8) (.ref h9) (.ref h10) (.ref h11) (.ref h12) (.ref h13) (.ref h14) (.ref h15) (.ref h16)))] t.heap ∧ va_D A [(h0, .inr (13, oX10 ov_there ov_count ov_captures ov_ranges (.ref h1) (.ref h2) (.ref h3) (.ref h4) (.ref h5) (.ref h6) (.ref h7) (.ref h8) (.ref h9) (.ref h10) (.ref h11) (.ref h12) (.ref h13) (.ref h14) (.ref h15) (.ref h16)))]) A) ([.ref h0]).toArray s 0 0 A) (F0 m 0 ls [])
  rw [← hQQ]
  unfold w_X10_reset at w
  refine lv_aload_n hx hb dX10_reset_0 rfl (lv_at hl 0 rfl) ?_
  refine lv_iconst (v := 0) hx hb dX10_reset_1 (by decide) ?_
  refine va_put (D := (dC, dI)) (ci := 13) (v := .int 0) (ty := .boolean) (C := RX10) (T := TX10) (N := 20) hx hb ht inX10 tyX10 tyX10_ok nmX10 hown hK hP hD hS 0 rfl rfl 0 (by decide) (ht _ tw_317) (fun _ h9 => h9) rfl (by decide +kernel) rfl rfl (Nat.le_of_ble_eq_true rfl) dX10_reset_2 (fun H_1 locs_1 hP_1 hD_1 hS_1 => ?_)
  have hP_1 : va_P (dC, dI) vwCl [(h0, .inr (13, oX10 false v_count v_captures v_ranges (.ref h1) (.ref h2) (.ref h3) (.ref h4) (.ref h5) (.ref h6) (.ref h7) (.ref h8) (.ref h9) (.ref h10) (.ref h11) (.ref h12) (.ref h13) (.ref h14) (.ref h15) (.ref h16)))] H_1 := hP_1
  have hD_1 : va_D A [(h0, .inr (13, oX10 false v_count v_captures v_ranges (.ref h1) (.ref h2) (.ref h3) (.ref h4) (.ref h5) (.ref h6) (.ref h7) (.ref h8) (.ref h9) (.ref h10) (.ref h11) (.ref h12) (.ref h13) (.ref h14) (.ref h15) (.ref h16)))] := hD_1
  refine lv_aload_n hx hb dX10_reset_5 rfl (lv_at hl 0 rfl) ?_
  refine lv_iconst (v := 0) hx hb dX10_reset_6 (by decide) ?_
  refine va_put (D := (dC, dI)) (ci := 13) (v := .int 0) (ty := .int) (C := RX10) (T := TX10) (N := 20) hx hb ht inX10 tyX10 tyX10_ok nmX10 hown hK hP_1 hD_1 hS_1 0 rfl rfl 1 (by decide) (ht _ tw_319) (fun _ h9 => h9) rfl (by decide +kernel) rfl rfl (Nat.le_of_ble_eq_true rfl) dX10_reset_7 (fun H_2 locs_2 hP_2 hD_2 hS_2 => ?_)
  have hP_2 : va_P (dC, dI) vwCl [(h0, .inr (13, oX10 false 0 v_captures v_ranges (.ref h1) (.ref h2) (.ref h3) (.ref h4) (.ref h5) (.ref h6) (.ref h7) (.ref h8) (.ref h9) (.ref h10) (.ref h11) (.ref h12) (.ref h13) (.ref h14) (.ref h15) (.ref h16)))] H_2 := hP_2
  have hD_2 : va_D A [(h0, .inr (13, oX10 false 0 v_captures v_ranges (.ref h1) (.ref h2) (.ref h3) (.ref h4) (.ref h5) (.ref h6) (.ref h7) (.ref h8) (.ref h9) (.ref h10) (.ref h11) (.ref h12) (.ref h13) (.ref h14) (.ref h15) (.ref h16)))] := hD_2
  refine lv_aload_n hx hb dX10_reset_10 rfl (lv_at hl 0 rfl) ?_
  refine lv_iconst (v := 0) hx hb dX10_reset_11 (by decide) ?_
  refine va_put (D := (dC, dI)) (ci := 13) (v := .int 0) (ty := .int) (C := RX10) (T := TX10) (N := 20) hx hb ht inX10 tyX10 tyX10_ok nmX10 hown hK hP_2 hD_2 hS_2 0 rfl rfl 2 (by decide) (ht _ tw_321) (fun _ h9 => h9) rfl (by decide +kernel) rfl rfl (Nat.le_of_ble_eq_true rfl) dX10_reset_12 (fun H_3 locs_3 hP_3 hD_3 hS_3 => ?_)
  have hP_3 : va_P (dC, dI) vwCl [(h0, .inr (13, oX10 false 0 0 v_ranges (.ref h1) (.ref h2) (.ref h3) (.ref h4) (.ref h5) (.ref h6) (.ref h7) (.ref h8) (.ref h9) (.ref h10) (.ref h11) (.ref h12) (.ref h13) (.ref h14) (.ref h15) (.ref h16)))] H_3 := hP_3
  have hD_3 : va_D A [(h0, .inr (13, oX10 false 0 0 v_ranges (.ref h1) (.ref h2) (.ref h3) (.ref h4) (.ref h5) (.ref h6) (.ref h7) (.ref h8) (.ref h9) (.ref h10) (.ref h11) (.ref h12) (.ref h13) (.ref h14) (.ref h15) (.ref h16)))] := hD_3
  refine lv_aload_n hx hb dX10_reset_15 rfl (lv_at hl 0 rfl) ?_
  refine lv_iconst (v := 0) hx hb dX10_reset_16 (by decide) ?_
  refine va_put (D := (dC, dI)) (ci := 13) (v := .int 0) (ty := .int) (C := RX10) (T := TX10) (N := 20) hx hb ht inX10 tyX10 tyX10_ok nmX10 hown hK hP_3 hD_3 hS_3 0 rfl rfl 3 (by decide) (ht _ tw_326) (fun _ h9 => h9) rfl (by decide +kernel) rfl rfl (Nat.le_of_ble_eq_true rfl) dX10_reset_17 (fun H_4 locs_4 hP_4 hD_4 hS_4 => ?_)
  have hP_4 : va_P (dC, dI) vwCl [(h0, .inr (13, oX10 false 0 0 0 (.ref h1) (.ref h2) (.ref h3) (.ref h4) (.ref h5) (.ref h6) (.ref h7) (.ref h8) (.ref h9) (.ref h10) (.ref h11) (.ref h12) (.ref h13) (.ref h14) (.ref h15) (.ref h16)))] H_4 := hP_4
  have hD_4 : va_D A [(h0, .inr (13, oX10 false 0 0 0 (.ref h1) (.ref h2) (.ref h3) (.ref h4) (.ref h5) (.ref h6) (.ref h7) (.ref h8) (.ref h9) (.ref h10) (.ref h11) (.ref h12) (.ref h13) (.ref h14) (.ref h15) (.ref h16)))] := hD_4
  rw [hQQ]
  exact W.vret hx hb hr (fun t9 ht9 hW9 => ⟨⟨0, rfl, rfl, ⟨false, 0, 0, 0, w, by rw [ht9]; exact hP_4, hD_4⟩⟩, hS_4.F ht9⟩) hS_4.2.2 dX10_reset_20
def w_X10_holderOf_22 (Q : Int32 → Prop) (s0_22 : Int32) : Prop :=
  Q s0_22
def w_X10_holderOf_21 (Q : Int32 → Prop) : Prop :=
  w_X10_holderOf_22 Q (-1)
def w_X10_holderOf (p1 : Int32) (v_count : Int32) (v_holder : Nat → Int32) (Q : Int32 → Prop) : Prop :=
  ((p1 < 0) → w_X10_holderOf_21 Q) ∧ ((¬ p1 < 0) → ((v_count ≤ p1) → w_X10_holderOf_21 Q) ∧ ((¬ v_count ≤ p1) → vp_in p1 256 ∧ ∀ x_3 : Int32, x_3 = v_holder p1.toNatClampNeg → w_X10_holderOf_22 Q x_3))
set_option maxHeartbeats 4000000 in
set_option maxRecDepth 100000 in
theorem mt_X10_holderOf (l : Launch) (dC : Nat → ClassId) (dI : Nat → Nat → Nat) (h0 h1 h2 h3 h4 h5 h6 h7 h8 h9 h10 h11 h12 h13 h14 h15 h16 : Nat) (k0 : ClassId) (p1 : Int32) (v_there : Bool) (v_count : Int32) (v_captures : Int32) (v_ranges : Int32) (v_holder : Nat → Int32) (Q : Int32 → Prop) (w : w_X10_holderOf p1 v_count v_holder Q) (sz : Nat) : Met l yX10_holderOf (WS yX10_holderOf cX10_holderOf 2 (some (.int))) ({ frames := 0, cells := 0, slots := 0, locals := 0 } : Room) (va_Pc [.ref h0, .int p1] (fun U => U.heap.size = sz ∧ va_P (dC, dI) vwCl [(h0, .inr (13, oX10 v_there v_count v_captures v_ranges (.ref h2) (.ref h1) (.ref h3) (.ref h4) (.ref h5) (.ref h6) (.ref h7) (.ref h8) (.ref h9) (.ref h10) (.ref h11) (.ref h12) (.ref h13) (.ref h14) (.ref h15) (.ref h16))), (h1, .inl (k0, 256, .inl v_holder))] U.heap ∧ va_K (dC, dI) vwCl [(k0, .int)] U ∧ va_D (fun _ => True) [(h0, .inr (13, oX10 v_there v_count v_captures v_ranges (.ref h2) (.ref h1) (.ref h3) (.ref h4) (.ref h5) (.ref h6) (.ref h7) (.ref h8) (.ref h9) (.ref h10) (.ref h11) (.ref h12) (.ref h13) (.ref h14) (.ref h15) (.ref h16))), (h1, .inl (k0, 256, .inl v_holder))])) (va_Qi (fun (r u : Int32) => r = u) (fun (u : Int32) (t : State) => (Q u) ∧ va_P (dC, dI) vwCl [(h0, .inr (13, oX10 v_there v_count v_captures v_ranges (.ref h2) (.ref h1) (.ref h3) (.ref h4) (.ref h5) (.ref h6) (.ref h7) (.ref h8) (.ref h9) (.ref h10) (.ref h11) (.ref h12) (.ref h13) (.ref h14) (.ref h15) (.ref h16))), (h1, .inl (k0, 256, .inl v_holder))] t.heap ∧ va_D (va_A [(h0, .inr (13, oX10 v_there v_count v_captures v_ranges (.ref h2) (.ref h1) (.ref h3) (.ref h4) (.ref h5) (.ref h6) (.ref h7) (.ref h8) (.ref h9) (.ref h10) (.ref h11) (.ref h12) (.ref h13) (.ref h14) (.ref h15) (.ref h16))), (h1, .inl (k0, 256, .inl v_holder))] sz) [(h0, .inr (13, oX10 v_there v_count v_captures v_ranges (.ref h2) (.ref h1) (.ref h3) (.ref h4) (.ref h5) (.ref h6) (.ref h7) (.ref h8) (.ref h9) (.ref h10) (.ref h11) (.ref h12) (.ref h13) (.ref h14) (.ref h15) (.ref h16))), (h1, .inl (k0, 256, .inl v_holder))]) (va_A [(h0, .inr (13, oX10 v_there v_count v_captures v_ranges (.ref h2) (.ref h1) (.ref h3) (.ref h4) (.ref h5) (.ref h6) (.ref h7) (.ref h8) (.ref h9) (.ref h10) (.ref h11) (.ref h12) (.ref h13) (.ref h14) (.ref h15) (.ref h16))), (h1, .inl (k0, 256, .inl v_holder))] sz)) 0 0 (va_A [(h0, .inr (13, oX10 v_there v_count v_captures v_ranges (.ref h2) (.ref h1) (.ref h3) (.ref h4) (.ref h5) (.ref h6) (.ref h7) (.ref h8) (.ref h9) (.ref h10) (.ref h11) (.ref h12) (.ref h13) (.ref h14) (.ref h15) (.ref h16))), (h1, .inl (k0, 256, .inl v_holder))] sz) := by
  refine Met.ofW (cc := cX10_holderOf) (maxL := 2) (ret := (some (.int))) (by decide) rfl ?_
  intro p e s m args below meth c s₁ B hml hv
  obtain ⟨rfl, hsz, hP, hK, hD0⟩ := hv
  have hx := B.exec
  have hb := B.bytes
  have hr := B.returns
  have hts := atoms_spec (ws := WS yX10_holderOf cX10_holderOf 2 (some (.int))) B.pre
  have ht : ∀ w ∈ TW, w.before _ s = true := fun w h => hts w (List.mem_cons_of_mem _ h)
  have hown : s.vm.findClass "PatternWorkshop$Tree" = some m.cls := findClass_of_methodNamed B.named
  have hlocks := B.notSynchronized
  subst hsz
  have hD := hD0.self (sz := s.heap.size)
  generalize hAe : va_A [(h0, .inr (13, oX10 v_there v_count v_captures v_ranges (.ref h2) (.ref h1) (.ref h3) (.ref h4) (.ref h5) (.ref h6) (.ref h7) (.ref h8) (.ref h9) (.ref h10) (.ref h11) (.ref h12) (.ref h13) (.ref h14) (.ref h15) (.ref h16))), (h1, .inl (k0, 256, .inl v_holder))] s.heap.size = A at hD ⊢
  have hA : ∀ q : Nat, s.heap.size ≤ q → A q := fun q h => by rw [← hAe]; exact Or.inr h
  have hS : va_S A s.heap s.heap [] := va_S.rf
  have hP : va_P (dC, dI) vwCl [(h0, .inr (13, oX10 v_there v_count v_captures v_ranges (.ref h2) (.ref h1) (.ref h3) (.ref h4) (.ref h5) (.ref h6) (.ref h7) (.ref h8) (.ref h9) (.ref h10) (.ref h11) (.ref h12) (.ref h13) (.ref h14) (.ref h15) (.ref h16))), (h1, .inl (k0, 256, .inl v_holder))] s.heap := hP
  have hl := lv_entry ([.ref h0, .int p1]) (n := 2) (Nat.le_of_ble_eq_true rfl)
  rw [lg_entry_eq]
  generalize (lg_sl ([.ref h0, .int p1]) ++ List.replicate (2 - (lg_sl ([.ref h0, .int p1])).length) Slot.unset).toArray = ls at hl ⊢
  have hl : lv_has ls 2 [(0, .ref h0), (1, .int p1)] := hl
  clear hD0
  obtain ⟨QQ, hQQ⟩ : ∃ QQ, QQ = MQ below (va_Qi (fun (r u : Int32) => r = u) (fun (u : Int32) (t : State) => (Q u) ∧ va_P (dC, dI) vwCl [(h0, .inr (13, oX10 v_there v_count v_captures v_ranges (.ref h2) (.ref h1) (.ref h3) (.ref h4) (.ref h5) (.ref h6) (.ref h7) (.ref h8) (.ref h9) (.ref h10) (.ref h11) (.ref h12) (.ref h13) (.ref h14) (.ref h15) (.ref h16))), (h1, .inl (k0, 256, .inl v_holder))] t.heap ∧ va_D A [(h0, .inr (13, oX10 v_there v_count v_captures v_ranges (.ref h2) (.ref h1) (.ref h3) (.ref h4) (.ref h5) (.ref h6) (.ref h7) (.ref h8) (.ref h9) (.ref h10) (.ref h11) (.ref h12) (.ref h13) (.ref h14) (.ref h15) (.ref h16))), (h1, .inl (k0, 256, .inl v_holder))]) A) ([.ref h0, .int p1]).toArray s 0 0 A := ⟨_, rfl⟩
  show W p l e ({ frames := 0, cells := 0, slots := 0, locals := 0 } : Room) s m ([.ref h0, .int p1]).toArray below meth c s.heap [] 0 0 (MQ below (va_Qi (fun (r u : Int32) => r = u) (fun (u : Int32) (t : State) => (Q u) ∧ va_P (dC, dI) vwCl [(h0, .inr (13, oX10 v_there v_count v_captures v_ranges (.ref h2) (.ref h1) (.ref h3) (.ref h4) (.ref h5) (.ref h6) (.ref h7) (.ref h8) (.ref h9) (.ref h10) (.ref h11) (.ref h12) (.ref h13) (.ref h14) (.ref h15) (.ref h16))), (h1, .inl (k0, 256, .inl v_holder))] t.heap ∧ va_D A [(h0, .inr (13, oX10 v_there v_count v_captures v_ranges (.ref h2) (.ref h1) (.ref h3) (.ref h4) (.ref h5) (.ref h6) (.ref h7) (.ref h8) (.ref h9) (.ref h10) (.ref h11) (.ref h12) (.ref h13) (.ref h14) (.ref h15) (.ref h16))), (h1, .inl (k0, 256, .inl v_holder))]) A) ([.ref h0, .int p1]).toArray s 0 0 A) (F0 m 0 ls [])
  rw [← hQQ]
  unfold w_X10_holderOf at w
  refine lv_iload_n hx hb dX10_holderOf_0 rfl (lv_at hl 1 rfl) ?_
  have k_22 : ∀ (s0_22 : Int32), ∀ (H_b22 : Heap) (locs_b22 : List Loc) (ls_b22 : Array Slot), w_X10_holderOf_22 Q s0_22 → va_P (dC, dI) vwCl [(h0, .inr (13, oX10 v_there v_count v_captures v_ranges (.ref h2) (.ref h1) (.ref h3) (.ref h4) (.ref h5) (.ref h6) (.ref h7) (.ref h8) (.ref h9) (.ref h10) (.ref h11) (.ref h12) (.ref h13) (.ref h14) (.ref h15) (.ref h16))), (h1, .inl (k0, 256, .inl v_holder))] H_b22 → va_D A [(h0, .inr (13, oX10 v_there v_count v_captures v_ranges (.ref h2) (.ref h1) (.ref h3) (.ref h4) (.ref h5) (.ref h6) (.ref h7) (.ref h8) (.ref h9) (.ref h10) (.ref h11) (.ref h12) (.ref h13) (.ref h14) (.ref h15) (.ref h16))), (h1, .inl (k0, 256, .inl v_holder))] → va_S A s.heap H_b22 locs_b22 → lv_has ls_b22 2 [] → W p l e ({ frames := 0, cells := 0, slots := 0, locals := 0 } : Room) s m ([.ref h0, .int p1]).toArray below meth c H_b22 locs_b22 0 0 QQ (F0 m 22 ls_b22 [.int s0_22]) := by
    intro s0_22 H_b22 locs_b22 ls_b22 w_b22 hP_b22 hD_b22 hS_b22 hl_b22
    unfold w_X10_holderOf_22 at w_b22
    rw [hQQ]
    exact W.iret (v := s0_22) hx hb hr (fun t9 ht9 hW9 => ⟨⟨s0_22, s0_22, rfl, rfl, ⟨w_b22, by rw [ht9]; exact hP_b22, hD_b22⟩⟩, hS_b22.F ht9⟩) hS_b22.2.2 dX10_holderOf_22
  have k_21 : ∀ (H_b21 : Heap) (locs_b21 : List Loc) (ls_b21 : Array Slot), w_X10_holderOf_21 Q → va_P (dC, dI) vwCl [(h0, .inr (13, oX10 v_there v_count v_captures v_ranges (.ref h2) (.ref h1) (.ref h3) (.ref h4) (.ref h5) (.ref h6) (.ref h7) (.ref h8) (.ref h9) (.ref h10) (.ref h11) (.ref h12) (.ref h13) (.ref h14) (.ref h15) (.ref h16))), (h1, .inl (k0, 256, .inl v_holder))] H_b21 → va_D A [(h0, .inr (13, oX10 v_there v_count v_captures v_ranges (.ref h2) (.ref h1) (.ref h3) (.ref h4) (.ref h5) (.ref h6) (.ref h7) (.ref h8) (.ref h9) (.ref h10) (.ref h11) (.ref h12) (.ref h13) (.ref h14) (.ref h15) (.ref h16))), (h1, .inl (k0, 256, .inl v_holder))] → va_S A s.heap H_b21 locs_b21 → lv_has ls_b21 2 [] → W p l e ({ frames := 0, cells := 0, slots := 0, locals := 0 } : Room) s m ([.ref h0, .int p1]).toArray below meth c H_b21 locs_b21 0 0 QQ (F0 m 21 ls_b21 []) := by
    intro  H_b21 locs_b21 ls_b21 w_b21 hP_b21 hD_b21 hS_b21 hl_b21
    unfold w_X10_holderOf_21 at w_b21
    refine lv_iconst (v := (-1)) hx hb dX10_holderOf_21 (by decide) ?_
    exact k_22 (-1) _ _ _ w_b21 hP_b21 hD_b21 hS_b21 (lv_sub hl_b21 [] rfl)
  refine lv_if_lt (tgt := 21) hx hb dX10_holderOf_1 (by decide) (fun c_1 => ?_) (fun c_1 => ?_)
  · exact k_21  _ _ _ (w.1 c_1) hP hD hS (lv_sub hl [] rfl)
  · refine lv_iload_n hx hb dX10_holderOf_4 rfl (lv_at hl 1 rfl) ?_
    refine lv_aload_n hx hb dX10_holderOf_5 rfl (lv_at hl 0 rfl) ?_
    refine va_get (D := (dC, dI)) (ci := 13) (v := .int v_count) (C := RX10) (T := TX10) (N := 20) hx hb ht inX10 hown hK hP 0 rfl rfl 1 (by decide) (ht _ tw_319) (fun _ h9 => h9) rfl dX10_holderOf_6 ?_
    refine lv_icmp_ge (tgt := 21) hx hb dX10_holderOf_9 (by decide) (fun c_2 => ?_) (fun c_2 => ?_)
    · exact k_21  _ _ _ ((w.2 c_1).1 c_2) hP hD hS (lv_sub hl [] rfl)
    · refine lv_aload_n hx hb dX10_holderOf_12 rfl (lv_at hl 0 rfl) ?_
      refine va_get (D := (dC, dI)) (ci := 13) (v := .ref h1) (C := RX10) (T := TX10) (N := 20) hx hb ht inX10 hown hK hP 0 rfl rfl 5 (by decide) (ht _ tw_328) (fun _ h9 => h9) rfl dX10_holderOf_13 ?_
      refine lv_iload_n hx hb dX10_holderOf_16 rfl (lv_at hl 1 rfl) ?_
      refine va_iald hx hb hK hP 1 0 rfl rfl (i := p1) ((w.2 c_1).2 c_2).1 dX10_holderOf_17 ?_
      refine lv_topi (fun x_3 ex_3 => ?_)
      have ex_3 : x_3 = v_holder p1.toNatClampNeg := ex_3
      refine lv_goto (tgt := 22) hx hb dX10_holderOf_18 (by decide) ?_
      exact k_22 x_3 _ _ _ ((((w.2 c_1).2 c_2).2) x_3 ex_3) hP hD hS (lv_sub hl [] rfl)
def w_X10_valueOf_22 (Q : Int32 → Prop) (s0_22 : Int32) : Prop :=
  Q s0_22
def w_X10_valueOf_21 (Q : Int32 → Prop) : Prop :=
  w_X10_valueOf_22 Q 0
def w_X10_valueOf (p1 : Int32) (v_count : Int32) (v_value : Nat → Int32) (Q : Int32 → Prop) : Prop :=
  ((p1 < 0) → w_X10_valueOf_21 Q) ∧ ((¬ p1 < 0) → ((v_count ≤ p1) → w_X10_valueOf_21 Q) ∧ ((¬ v_count ≤ p1) → vp_in p1 256 ∧ ∀ x_3 : Int32, x_3 = v_value p1.toNatClampNeg → w_X10_valueOf_22 Q x_3))
set_option maxHeartbeats 4000000 in
set_option maxRecDepth 100000 in
theorem mt_X10_valueOf (l : Launch) (dC : Nat → ClassId) (dI : Nat → Nat → Nat) (h0 h1 h2 h3 h4 h5 h6 h7 h8 h9 h10 h11 h12 h13 h14 h15 h16 : Nat) (k0 : ClassId) (p1 : Int32) (v_there : Bool) (v_count : Int32) (v_captures : Int32) (v_ranges : Int32) (v_value : Nat → Int32) (Q : Int32 → Prop) (w : w_X10_valueOf p1 v_count v_value Q) (sz : Nat) : Met l yX10_valueOf (WS yX10_valueOf cX10_valueOf 2 (some (.int))) ({ frames := 0, cells := 0, slots := 0, locals := 0 } : Room) (va_Pc [.ref h0, .int p1] (fun U => U.heap.size = sz ∧ va_P (dC, dI) vwCl [(h0, .inr (13, oX10 v_there v_count v_captures v_ranges (.ref h2) (.ref h3) (.ref h4) (.ref h5) (.ref h6) (.ref h7) (.ref h1) (.ref h8) (.ref h9) (.ref h10) (.ref h11) (.ref h12) (.ref h13) (.ref h14) (.ref h15) (.ref h16))), (h1, .inl (k0, 256, .inl v_value))] U.heap ∧ va_K (dC, dI) vwCl [(k0, .int)] U ∧ va_D (fun _ => True) [(h0, .inr (13, oX10 v_there v_count v_captures v_ranges (.ref h2) (.ref h3) (.ref h4) (.ref h5) (.ref h6) (.ref h7) (.ref h1) (.ref h8) (.ref h9) (.ref h10) (.ref h11) (.ref h12) (.ref h13) (.ref h14) (.ref h15) (.ref h16))), (h1, .inl (k0, 256, .inl v_value))])) (va_Qi (fun (r u : Int32) => r = u) (fun (u : Int32) (t : State) => (Q u) ∧ va_P (dC, dI) vwCl [(h0, .inr (13, oX10 v_there v_count v_captures v_ranges (.ref h2) (.ref h3) (.ref h4) (.ref h5) (.ref h6) (.ref h7) (.ref h1) (.ref h8) (.ref h9) (.ref h10) (.ref h11) (.ref h12) (.ref h13) (.ref h14) (.ref h15) (.ref h16))), (h1, .inl (k0, 256, .inl v_value))] t.heap ∧ va_D (va_A [(h0, .inr (13, oX10 v_there v_count v_captures v_ranges (.ref h2) (.ref h3) (.ref h4) (.ref h5) (.ref h6) (.ref h7) (.ref h1) (.ref h8) (.ref h9) (.ref h10) (.ref h11) (.ref h12) (.ref h13) (.ref h14) (.ref h15) (.ref h16))), (h1, .inl (k0, 256, .inl v_value))] sz) [(h0, .inr (13, oX10 v_there v_count v_captures v_ranges (.ref h2) (.ref h3) (.ref h4) (.ref h5) (.ref h6) (.ref h7) (.ref h1) (.ref h8) (.ref h9) (.ref h10) (.ref h11) (.ref h12) (.ref h13) (.ref h14) (.ref h15) (.ref h16))), (h1, .inl (k0, 256, .inl v_value))]) (va_A [(h0, .inr (13, oX10 v_there v_count v_captures v_ranges (.ref h2) (.ref h3) (.ref h4) (.ref h5) (.ref h6) (.ref h7) (.ref h1) (.ref h8) (.ref h9) (.ref h10) (.ref h11) (.ref h12) (.ref h13) (.ref h14) (.ref h15) (.ref h16))), (h1, .inl (k0, 256, .inl v_value))] sz)) 0 0 (va_A [(h0, .inr (13, oX10 v_there v_count v_captures v_ranges (.ref h2) (.ref h3) (.ref h4) (.ref h5) (.ref h6) (.ref h7) (.ref h1) (.ref h8) (.ref h9) (.ref h10) (.ref h11) (.ref h12) (.ref h13) (.ref h14) (.ref h15) (.ref h16))), (h1, .inl (k0, 256, .inl v_value))] sz) := by
  refine Met.ofW (cc := cX10_valueOf) (maxL := 2) (ret := (some (.int))) (by decide) rfl ?_
  intro p e s m args below meth c s₁ B hml hv
  obtain ⟨rfl, hsz, hP, hK, hD0⟩ := hv
  have hx := B.exec
  have hb := B.bytes
  have hr := B.returns
  have hts := atoms_spec (ws := WS yX10_valueOf cX10_valueOf 2 (some (.int))) B.pre
  have ht : ∀ w ∈ TW, w.before _ s = true := fun w h => hts w (List.mem_cons_of_mem _ h)
  have hown : s.vm.findClass "PatternWorkshop$Tree" = some m.cls := findClass_of_methodNamed B.named
  have hlocks := B.notSynchronized
  subst hsz
  have hD := hD0.self (sz := s.heap.size)
  generalize hAe : va_A [(h0, .inr (13, oX10 v_there v_count v_captures v_ranges (.ref h2) (.ref h3) (.ref h4) (.ref h5) (.ref h6) (.ref h7) (.ref h1) (.ref h8) (.ref h9) (.ref h10) (.ref h11) (.ref h12) (.ref h13) (.ref h14) (.ref h15) (.ref h16))), (h1, .inl (k0, 256, .inl v_value))] s.heap.size = A at hD ⊢
  have hA : ∀ q : Nat, s.heap.size ≤ q → A q := fun q h => by rw [← hAe]; exact Or.inr h
  have hS : va_S A s.heap s.heap [] := va_S.rf
  have hP : va_P (dC, dI) vwCl [(h0, .inr (13, oX10 v_there v_count v_captures v_ranges (.ref h2) (.ref h3) (.ref h4) (.ref h5) (.ref h6) (.ref h7) (.ref h1) (.ref h8) (.ref h9) (.ref h10) (.ref h11) (.ref h12) (.ref h13) (.ref h14) (.ref h15) (.ref h16))), (h1, .inl (k0, 256, .inl v_value))] s.heap := hP
  have hl := lv_entry ([.ref h0, .int p1]) (n := 2) (Nat.le_of_ble_eq_true rfl)
  rw [lg_entry_eq]
  generalize (lg_sl ([.ref h0, .int p1]) ++ List.replicate (2 - (lg_sl ([.ref h0, .int p1])).length) Slot.unset).toArray = ls at hl ⊢
  have hl : lv_has ls 2 [(0, .ref h0), (1, .int p1)] := hl
  clear hD0
  obtain ⟨QQ, hQQ⟩ : ∃ QQ, QQ = MQ below (va_Qi (fun (r u : Int32) => r = u) (fun (u : Int32) (t : State) => (Q u) ∧ va_P (dC, dI) vwCl [(h0, .inr (13, oX10 v_there v_count v_captures v_ranges (.ref h2) (.ref h3) (.ref h4) (.ref h5) (.ref h6) (.ref h7) (.ref h1) (.ref h8) (.ref h9) (.ref h10) (.ref h11) (.ref h12) (.ref h13) (.ref h14) (.ref h15) (.ref h16))), (h1, .inl (k0, 256, .inl v_value))] t.heap ∧ va_D A [(h0, .inr (13, oX10 v_there v_count v_captures v_ranges (.ref h2) (.ref h3) (.ref h4) (.ref h5) (.ref h6) (.ref h7) (.ref h1) (.ref h8) (.ref h9) (.ref h10) (.ref h11) (.ref h12) (.ref h13) (.ref h14) (.ref h15) (.ref h16))), (h1, .inl (k0, 256, .inl v_value))]) A) ([.ref h0, .int p1]).toArray s 0 0 A := ⟨_, rfl⟩
  show W p l e ({ frames := 0, cells := 0, slots := 0, locals := 0 } : Room) s m ([.ref h0, .int p1]).toArray below meth c s.heap [] 0 0 (MQ below (va_Qi (fun (r u : Int32) => r = u) (fun (u : Int32) (t : State) => (Q u) ∧ va_P (dC, dI) vwCl [(h0, .inr (13, oX10 v_there v_count v_captures v_ranges (.ref h2) (.ref h3) (.ref h4) (.ref h5) (.ref h6) (.ref h7) (.ref h1) (.ref h8) (.ref h9) (.ref h10) (.ref h11) (.ref h12) (.ref h13) (.ref h14) (.ref h15) (.ref h16))), (h1, .inl (k0, 256, .inl v_value))] t.heap ∧ va_D A [(h0, .inr (13, oX10 v_there v_count v_captures v_ranges (.ref h2) (.ref h3) (.ref h4) (.ref h5) (.ref h6) (.ref h7) (.ref h1) (.ref h8) (.ref h9) (.ref h10) (.ref h11) (.ref h12) (.ref h13) (.ref h14) (.ref h15) (.ref h16))), (h1, .inl (k0, 256, .inl v_value))]) A) ([.ref h0, .int p1]).toArray s 0 0 A) (F0 m 0 ls [])
  rw [← hQQ]
  unfold w_X10_valueOf at w
  refine lv_iload_n hx hb dX10_valueOf_0 rfl (lv_at hl 1 rfl) ?_
  have k_22 : ∀ (s0_22 : Int32), ∀ (H_b22 : Heap) (locs_b22 : List Loc) (ls_b22 : Array Slot), w_X10_valueOf_22 Q s0_22 → va_P (dC, dI) vwCl [(h0, .inr (13, oX10 v_there v_count v_captures v_ranges (.ref h2) (.ref h3) (.ref h4) (.ref h5) (.ref h6) (.ref h7) (.ref h1) (.ref h8) (.ref h9) (.ref h10) (.ref h11) (.ref h12) (.ref h13) (.ref h14) (.ref h15) (.ref h16))), (h1, .inl (k0, 256, .inl v_value))] H_b22 → va_D A [(h0, .inr (13, oX10 v_there v_count v_captures v_ranges (.ref h2) (.ref h3) (.ref h4) (.ref h5) (.ref h6) (.ref h7) (.ref h1) (.ref h8) (.ref h9) (.ref h10) (.ref h11) (.ref h12) (.ref h13) (.ref h14) (.ref h15) (.ref h16))), (h1, .inl (k0, 256, .inl v_value))] → va_S A s.heap H_b22 locs_b22 → lv_has ls_b22 2 [] → W p l e ({ frames := 0, cells := 0, slots := 0, locals := 0 } : Room) s m ([.ref h0, .int p1]).toArray below meth c H_b22 locs_b22 0 0 QQ (F0 m 22 ls_b22 [.int s0_22]) := by
    intro s0_22 H_b22 locs_b22 ls_b22 w_b22 hP_b22 hD_b22 hS_b22 hl_b22
    unfold w_X10_valueOf_22 at w_b22
    rw [hQQ]
    exact W.iret (v := s0_22) hx hb hr (fun t9 ht9 hW9 => ⟨⟨s0_22, s0_22, rfl, rfl, ⟨w_b22, by rw [ht9]; exact hP_b22, hD_b22⟩⟩, hS_b22.F ht9⟩) hS_b22.2.2 dX10_valueOf_22
  have k_21 : ∀ (H_b21 : Heap) (locs_b21 : List Loc) (ls_b21 : Array Slot), w_X10_valueOf_21 Q → va_P (dC, dI) vwCl [(h0, .inr (13, oX10 v_there v_count v_captures v_ranges (.ref h2) (.ref h3) (.ref h4) (.ref h5) (.ref h6) (.ref h7) (.ref h1) (.ref h8) (.ref h9) (.ref h10) (.ref h11) (.ref h12) (.ref h13) (.ref h14) (.ref h15) (.ref h16))), (h1, .inl (k0, 256, .inl v_value))] H_b21 → va_D A [(h0, .inr (13, oX10 v_there v_count v_captures v_ranges (.ref h2) (.ref h3) (.ref h4) (.ref h5) (.ref h6) (.ref h7) (.ref h1) (.ref h8) (.ref h9) (.ref h10) (.ref h11) (.ref h12) (.ref h13) (.ref h14) (.ref h15) (.ref h16))), (h1, .inl (k0, 256, .inl v_value))] → va_S A s.heap H_b21 locs_b21 → lv_has ls_b21 2 [] → W p l e ({ frames := 0, cells := 0, slots := 0, locals := 0 } : Room) s m ([.ref h0, .int p1]).toArray below meth c H_b21 locs_b21 0 0 QQ (F0 m 21 ls_b21 []) := by
    intro  H_b21 locs_b21 ls_b21 w_b21 hP_b21 hD_b21 hS_b21 hl_b21
    unfold w_X10_valueOf_21 at w_b21
    refine lv_iconst (v := 0) hx hb dX10_valueOf_21 (by decide) ?_
    exact k_22 0 _ _ _ w_b21 hP_b21 hD_b21 hS_b21 (lv_sub hl_b21 [] rfl)
  refine lv_if_lt (tgt := 21) hx hb dX10_valueOf_1 (by decide) (fun c_1 => ?_) (fun c_1 => ?_)
  · exact k_21  _ _ _ (w.1 c_1) hP hD hS (lv_sub hl [] rfl)
  · refine lv_iload_n hx hb dX10_valueOf_4 rfl (lv_at hl 1 rfl) ?_
    refine lv_aload_n hx hb dX10_valueOf_5 rfl (lv_at hl 0 rfl) ?_
    refine va_get (D := (dC, dI)) (ci := 13) (v := .int v_count) (C := RX10) (T := TX10) (N := 20) hx hb ht inX10 hown hK hP 0 rfl rfl 1 (by decide) (ht _ tw_319) (fun _ h9 => h9) rfl dX10_valueOf_6 ?_
    refine lv_icmp_ge (tgt := 21) hx hb dX10_valueOf_9 (by decide) (fun c_2 => ?_) (fun c_2 => ?_)
    · exact k_21  _ _ _ ((w.2 c_1).1 c_2) hP hD hS (lv_sub hl [] rfl)
    · refine lv_aload_n hx hb dX10_valueOf_12 rfl (lv_at hl 0 rfl) ?_
      refine va_get (D := (dC, dI)) (ci := 13) (v := .ref h1) (C := RX10) (T := TX10) (N := 20) hx hb ht inX10 hown hK hP 0 rfl rfl 10 (by decide) (ht _ tw_333) (fun _ h9 => h9) rfl dX10_valueOf_13 ?_
      refine lv_iload_n hx hb dX10_valueOf_16 rfl (lv_at hl 1 rfl) ?_
      refine va_iald hx hb hK hP 1 0 rfl rfl (i := p1) ((w.2 c_1).2 c_2).1 dX10_valueOf_17 ?_
      refine lv_topi (fun x_3 ex_3 => ?_)
      have ex_3 : x_3 = v_value p1.toNatClampNeg := ex_3
      refine lv_goto (tgt := 22) hx hb dX10_valueOf_18 (by decide) ?_
      exact k_22 x_3 _ _ _ ((((w.2 c_1).2 c_2).2) x_3 ex_3) hP hD hS (lv_sub hl [] rfl)
def w_X10_lowOf_22 (Q : Int32 → Prop) (s0_22 : Int32) : Prop :=
  Q s0_22
def w_X10_lowOf_21 (Q : Int32 → Prop) : Prop :=
  w_X10_lowOf_22 Q 0
def w_X10_lowOf (p1 : Int32) (v_count : Int32) (v_low : Nat → Int32) (Q : Int32 → Prop) : Prop :=
  ((p1 < 0) → w_X10_lowOf_21 Q) ∧ ((¬ p1 < 0) → ((v_count ≤ p1) → w_X10_lowOf_21 Q) ∧ ((¬ v_count ≤ p1) → vp_in p1 256 ∧ ∀ x_3 : Int32, x_3 = v_low p1.toNatClampNeg → w_X10_lowOf_22 Q x_3))
set_option maxHeartbeats 4000000 in
set_option maxRecDepth 100000 in
theorem mt_X10_lowOf (l : Launch) (dC : Nat → ClassId) (dI : Nat → Nat → Nat) (h0 h1 h2 h3 h4 h5 h6 h7 h8 h9 h10 h11 h12 h13 h14 h15 h16 : Nat) (k0 : ClassId) (p1 : Int32) (v_there : Bool) (v_count : Int32) (v_captures : Int32) (v_ranges : Int32) (v_low : Nat → Int32) (Q : Int32 → Prop) (w : w_X10_lowOf p1 v_count v_low Q) (sz : Nat) : Met l yX10_lowOf (WS yX10_lowOf cX10_lowOf 2 (some (.int))) ({ frames := 0, cells := 0, slots := 0, locals := 0 } : Room) (va_Pc [.ref h0, .int p1] (fun U => U.heap.size = sz ∧ va_P (dC, dI) vwCl [(h0, .inr (13, oX10 v_there v_count v_captures v_ranges (.ref h2) (.ref h3) (.ref h4) (.ref h5) (.ref h6) (.ref h7) (.ref h8) (.ref h1) (.ref h9) (.ref h10) (.ref h11) (.ref h12) (.ref h13) (.ref h14) (.ref h15) (.ref h16))), (h1, .inl (k0, 256, .inl v_low))] U.heap ∧ va_K (dC, dI) vwCl [(k0, .int)] U ∧ va_D (fun _ => True) [(h0, .inr (13, oX10 v_there v_count v_captures v_ranges (.ref h2) (.ref h3) (.ref h4) (.ref h5) (.ref h6) (.ref h7) (.ref h8) (.ref h1) (.ref h9) (.ref h10) (.ref h11) (.ref h12) (.ref h13) (.ref h14) (.ref h15) (.ref h16))), (h1, .inl (k0, 256, .inl v_low))])) (va_Qi (fun (r u : Int32) => r = u) (fun (u : Int32) (t : State) => (Q u) ∧ va_P (dC, dI) vwCl [(h0, .inr (13, oX10 v_there v_count v_captures v_ranges (.ref h2) (.ref h3) (.ref h4) (.ref h5) (.ref h6) (.ref h7) (.ref h8) (.ref h1) (.ref h9) (.ref h10) (.ref h11) (.ref h12) (.ref h13) (.ref h14) (.ref h15) (.ref h16))), (h1, .inl (k0, 256, .inl v_low))] t.heap ∧ va_D (va_A [(h0, .inr (13, oX10 v_there v_count v_captures v_ranges (.ref h2) (.ref h3) (.ref h4) (.ref h5) (.ref h6) (.ref h7) (.ref h8) (.ref h1) (.ref h9) (.ref h10) (.ref h11) (.ref h12) (.ref h13) (.ref h14) (.ref h15) (.ref h16))), (h1, .inl (k0, 256, .inl v_low))] sz) [(h0, .inr (13, oX10 v_there v_count v_captures v_ranges (.ref h2) (.ref h3) (.ref h4) (.ref h5) (.ref h6) (.ref h7) (.ref h8) (.ref h1) (.ref h9) (.ref h10) (.ref h11) (.ref h12) (.ref h13) (.ref h14) (.ref h15) (.ref h16))), (h1, .inl (k0, 256, .inl v_low))]) (va_A [(h0, .inr (13, oX10 v_there v_count v_captures v_ranges (.ref h2) (.ref h3) (.ref h4) (.ref h5) (.ref h6) (.ref h7) (.ref h8) (.ref h1) (.ref h9) (.ref h10) (.ref h11) (.ref h12) (.ref h13) (.ref h14) (.ref h15) (.ref h16))), (h1, .inl (k0, 256, .inl v_low))] sz)) 0 0 (va_A [(h0, .inr (13, oX10 v_there v_count v_captures v_ranges (.ref h2) (.ref h3) (.ref h4) (.ref h5) (.ref h6) (.ref h7) (.ref h8) (.ref h1) (.ref h9) (.ref h10) (.ref h11) (.ref h12) (.ref h13) (.ref h14) (.ref h15) (.ref h16))), (h1, .inl (k0, 256, .inl v_low))] sz) := by
  refine Met.ofW (cc := cX10_lowOf) (maxL := 2) (ret := (some (.int))) (by decide) rfl ?_
  intro p e s m args below meth c s₁ B hml hv
  obtain ⟨rfl, hsz, hP, hK, hD0⟩ := hv
  have hx := B.exec
  have hb := B.bytes
  have hr := B.returns
  have hts := atoms_spec (ws := WS yX10_lowOf cX10_lowOf 2 (some (.int))) B.pre
  have ht : ∀ w ∈ TW, w.before _ s = true := fun w h => hts w (List.mem_cons_of_mem _ h)
  have hown : s.vm.findClass "PatternWorkshop$Tree" = some m.cls := findClass_of_methodNamed B.named
  have hlocks := B.notSynchronized
  subst hsz
  have hD := hD0.self (sz := s.heap.size)
  generalize hAe : va_A [(h0, .inr (13, oX10 v_there v_count v_captures v_ranges (.ref h2) (.ref h3) (.ref h4) (.ref h5) (.ref h6) (.ref h7) (.ref h8) (.ref h1) (.ref h9) (.ref h10) (.ref h11) (.ref h12) (.ref h13) (.ref h14) (.ref h15) (.ref h16))), (h1, .inl (k0, 256, .inl v_low))] s.heap.size = A at hD ⊢
  have hA : ∀ q : Nat, s.heap.size ≤ q → A q := fun q h => by rw [← hAe]; exact Or.inr h
  have hS : va_S A s.heap s.heap [] := va_S.rf
  have hP : va_P (dC, dI) vwCl [(h0, .inr (13, oX10 v_there v_count v_captures v_ranges (.ref h2) (.ref h3) (.ref h4) (.ref h5) (.ref h6) (.ref h7) (.ref h8) (.ref h1) (.ref h9) (.ref h10) (.ref h11) (.ref h12) (.ref h13) (.ref h14) (.ref h15) (.ref h16))), (h1, .inl (k0, 256, .inl v_low))] s.heap := hP
  have hl := lv_entry ([.ref h0, .int p1]) (n := 2) (Nat.le_of_ble_eq_true rfl)
  rw [lg_entry_eq]
  generalize (lg_sl ([.ref h0, .int p1]) ++ List.replicate (2 - (lg_sl ([.ref h0, .int p1])).length) Slot.unset).toArray = ls at hl ⊢
  have hl : lv_has ls 2 [(0, .ref h0), (1, .int p1)] := hl
  clear hD0
  obtain ⟨QQ, hQQ⟩ : ∃ QQ, QQ = MQ below (va_Qi (fun (r u : Int32) => r = u) (fun (u : Int32) (t : State) => (Q u) ∧ va_P (dC, dI) vwCl [(h0, .inr (13, oX10 v_there v_count v_captures v_ranges (.ref h2) (.ref h3) (.ref h4) (.ref h5) (.ref h6) (.ref h7) (.ref h8) (.ref h1) (.ref h9) (.ref h10) (.ref h11) (.ref h12) (.ref h13) (.ref h14) (.ref h15) (.ref h16))), (h1, .inl (k0, 256, .inl v_low))] t.heap ∧ va_D A [(h0, .inr (13, oX10 v_there v_count v_captures v_ranges (.ref h2) (.ref h3) (.ref h4) (.ref h5) (.ref h6) (.ref h7) (.ref h8) (.ref h1) (.ref h9) (.ref h10) (.ref h11) (.ref h12) (.ref h13) (.ref h14) (.ref h15) (.ref h16))), (h1, .inl (k0, 256, .inl v_low))]) A) ([.ref h0, .int p1]).toArray s 0 0 A := ⟨_, rfl⟩
  show W p l e ({ frames := 0, cells := 0, slots := 0, locals := 0 } : Room) s m ([.ref h0, .int p1]).toArray below meth c s.heap [] 0 0 (MQ below (va_Qi (fun (r u : Int32) => r = u) (fun (u : Int32) (t : State) => (Q u) ∧ va_P (dC, dI) vwCl [(h0, .inr (13, oX10 v_there v_count v_captures v_ranges (.ref h2) (.ref h3) (.ref h4) (.ref h5) (.ref h6) (.ref h7) (.ref h8) (.ref h1) (.ref h9) (.ref h10) (.ref h11) (.ref h12) (.ref h13) (.ref h14) (.ref h15) (.ref h16))), (h1, .inl (k0, 256, .inl v_low))] t.heap ∧ va_D A [(h0, .inr (13, oX10 v_there v_count v_captures v_ranges (.ref h2) (.ref h3) (.ref h4) (.ref h5) (.ref h6) (.ref h7) (.ref h8) (.ref h1) (.ref h9) (.ref h10) (.ref h11) (.ref h12) (.ref h13) (.ref h14) (.ref h15) (.ref h16))), (h1, .inl (k0, 256, .inl v_low))]) A) ([.ref h0, .int p1]).toArray s 0 0 A) (F0 m 0 ls [])
  rw [← hQQ]
  unfold w_X10_lowOf at w
  refine lv_iload_n hx hb dX10_lowOf_0 rfl (lv_at hl 1 rfl) ?_
  have k_22 : ∀ (s0_22 : Int32), ∀ (H_b22 : Heap) (locs_b22 : List Loc) (ls_b22 : Array Slot), w_X10_lowOf_22 Q s0_22 → va_P (dC, dI) vwCl [(h0, .inr (13, oX10 v_there v_count v_captures v_ranges (.ref h2) (.ref h3) (.ref h4) (.ref h5) (.ref h6) (.ref h7) (.ref h8) (.ref h1) (.ref h9) (.ref h10) (.ref h11) (.ref h12) (.ref h13) (.ref h14) (.ref h15) (.ref h16))), (h1, .inl (k0, 256, .inl v_low))] H_b22 → va_D A [(h0, .inr (13, oX10 v_there v_count v_captures v_ranges (.ref h2) (.ref h3) (.ref h4) (.ref h5) (.ref h6) (.ref h7) (.ref h8) (.ref h1) (.ref h9) (.ref h10) (.ref h11) (.ref h12) (.ref h13) (.ref h14) (.ref h15) (.ref h16))), (h1, .inl (k0, 256, .inl v_low))] → va_S A s.heap H_b22 locs_b22 → lv_has ls_b22 2 [] → W p l e ({ frames := 0, cells := 0, slots := 0, locals := 0 } : Room) s m ([.ref h0, .int p1]).toArray below meth c H_b22 locs_b22 0 0 QQ (F0 m 22 ls_b22 [.int s0_22]) := by
    intro s0_22 H_b22 locs_b22 ls_b22 w_b22 hP_b22 hD_b22 hS_b22 hl_b22
    unfold w_X10_lowOf_22 at w_b22
    rw [hQQ]
    exact W.iret (v := s0_22) hx hb hr (fun t9 ht9 hW9 => ⟨⟨s0_22, s0_22, rfl, rfl, ⟨w_b22, by rw [ht9]; exact hP_b22, hD_b22⟩⟩, hS_b22.F ht9⟩) hS_b22.2.2 dX10_lowOf_22
  have k_21 : ∀ (H_b21 : Heap) (locs_b21 : List Loc) (ls_b21 : Array Slot), w_X10_lowOf_21 Q → va_P (dC, dI) vwCl [(h0, .inr (13, oX10 v_there v_count v_captures v_ranges (.ref h2) (.ref h3) (.ref h4) (.ref h5) (.ref h6) (.ref h7) (.ref h8) (.ref h1) (.ref h9) (.ref h10) (.ref h11) (.ref h12) (.ref h13) (.ref h14) (.ref h15) (.ref h16))), (h1, .inl (k0, 256, .inl v_low))] H_b21 → va_D A [(h0, .inr (13, oX10 v_there v_count v_captures v_ranges (.ref h2) (.ref h3) (.ref h4) (.ref h5) (.ref h6) (.ref h7) (.ref h8) (.ref h1) (.ref h9) (.ref h10) (.ref h11) (.ref h12) (.ref h13) (.ref h14) (.ref h15) (.ref h16))), (h1, .inl (k0, 256, .inl v_low))] → va_S A s.heap H_b21 locs_b21 → lv_has ls_b21 2 [] → W p l e ({ frames := 0, cells := 0, slots := 0, locals := 0 } : Room) s m ([.ref h0, .int p1]).toArray below meth c H_b21 locs_b21 0 0 QQ (F0 m 21 ls_b21 []) := by
    intro  H_b21 locs_b21 ls_b21 w_b21 hP_b21 hD_b21 hS_b21 hl_b21
    unfold w_X10_lowOf_21 at w_b21
    refine lv_iconst (v := 0) hx hb dX10_lowOf_21 (by decide) ?_
    exact k_22 0 _ _ _ w_b21 hP_b21 hD_b21 hS_b21 (lv_sub hl_b21 [] rfl)
  refine lv_if_lt (tgt := 21) hx hb dX10_lowOf_1 (by decide) (fun c_1 => ?_) (fun c_1 => ?_)
  · exact k_21  _ _ _ (w.1 c_1) hP hD hS (lv_sub hl [] rfl)
  · refine lv_iload_n hx hb dX10_lowOf_4 rfl (lv_at hl 1 rfl) ?_
    refine lv_aload_n hx hb dX10_lowOf_5 rfl (lv_at hl 0 rfl) ?_
    refine va_get (D := (dC, dI)) (ci := 13) (v := .int v_count) (C := RX10) (T := TX10) (N := 20) hx hb ht inX10 hown hK hP 0 rfl rfl 1 (by decide) (ht _ tw_319) (fun _ h9 => h9) rfl dX10_lowOf_6 ?_
    refine lv_icmp_ge (tgt := 21) hx hb dX10_lowOf_9 (by decide) (fun c_2 => ?_) (fun c_2 => ?_)
    · exact k_21  _ _ _ ((w.2 c_1).1 c_2) hP hD hS (lv_sub hl [] rfl)
    · refine lv_aload_n hx hb dX10_lowOf_12 rfl (lv_at hl 0 rfl) ?_
      refine va_get (D := (dC, dI)) (ci := 13) (v := .ref h1) (C := RX10) (T := TX10) (N := 20) hx hb ht inX10 hown hK hP 0 rfl rfl 11 (by decide) (ht _ tw_334) (fun _ h9 => h9) rfl dX10_lowOf_13 ?_
      refine lv_iload_n hx hb dX10_lowOf_16 rfl (lv_at hl 1 rfl) ?_
      refine va_iald hx hb hK hP 1 0 rfl rfl (i := p1) ((w.2 c_1).2 c_2).1 dX10_lowOf_17 ?_
      refine lv_topi (fun x_3 ex_3 => ?_)
      have ex_3 : x_3 = v_low p1.toNatClampNeg := ex_3
      refine lv_goto (tgt := 22) hx hb dX10_lowOf_18 (by decide) ?_
      exact k_22 x_3 _ _ _ ((((w.2 c_1).2 c_2).2) x_3 ex_3) hP hD hS (lv_sub hl [] rfl)
def w_X10_highOf_22 (Q : Int32 → Prop) (s0_22 : Int32) : Prop :=
  Q s0_22
def w_X10_highOf_21 (Q : Int32 → Prop) : Prop :=
  w_X10_highOf_22 Q 0
def w_X10_highOf (p1 : Int32) (v_count : Int32) (v_high : Nat → Int32) (Q : Int32 → Prop) : Prop :=
  ((p1 < 0) → w_X10_highOf_21 Q) ∧ ((¬ p1 < 0) → ((v_count ≤ p1) → w_X10_highOf_21 Q) ∧ ((¬ v_count ≤ p1) → vp_in p1 256 ∧ ∀ x_3 : Int32, x_3 = v_high p1.toNatClampNeg → w_X10_highOf_22 Q x_3))
set_option maxHeartbeats 4000000 in
set_option maxRecDepth 100000 in
theorem mt_X10_highOf (l : Launch) (dC : Nat → ClassId) (dI : Nat → Nat → Nat) (h0 h1 h2 h3 h4 h5 h6 h7 h8 h9 h10 h11 h12 h13 h14 h15 h16 : Nat) (k0 : ClassId) (p1 : Int32) (v_there : Bool) (v_count : Int32) (v_captures : Int32) (v_ranges : Int32) (v_high : Nat → Int32) (Q : Int32 → Prop) (w : w_X10_highOf p1 v_count v_high Q) (sz : Nat) : Met l yX10_highOf (WS yX10_highOf cX10_highOf 2 (some (.int))) ({ frames := 0, cells := 0, slots := 0, locals := 0 } : Room) (va_Pc [.ref h0, .int p1] (fun U => U.heap.size = sz ∧ va_P (dC, dI) vwCl [(h0, .inr (13, oX10 v_there v_count v_captures v_ranges (.ref h2) (.ref h3) (.ref h4) (.ref h5) (.ref h6) (.ref h7) (.ref h8) (.ref h9) (.ref h1) (.ref h10) (.ref h11) (.ref h12) (.ref h13) (.ref h14) (.ref h15) (.ref h16))), (h1, .inl (k0, 256, .inl v_high))] U.heap ∧ va_K (dC, dI) vwCl [(k0, .int)] U ∧ va_D (fun _ => True) [(h0, .inr (13, oX10 v_there v_count v_captures v_ranges (.ref h2) (.ref h3) (.ref h4) (.ref h5) (.ref h6) (.ref h7) (.ref h8) (.ref h9) (.ref h1) (.ref h10) (.ref h11) (.ref h12) (.ref h13) (.ref h14) (.ref h15) (.ref h16))), (h1, .inl (k0, 256, .inl v_high))])) (va_Qi (fun (r u : Int32) => r = u) (fun (u : Int32) (t : State) => (Q u) ∧ va_P (dC, dI) vwCl [(h0, .inr (13, oX10 v_there v_count v_captures v_ranges (.ref h2) (.ref h3) (.ref h4) (.ref h5) (.ref h6) (.ref h7) (.ref h8) (.ref h9) (.ref h1) (.ref h10) (.ref h11) (.ref h12) (.ref h13) (.ref h14) (.ref h15) (.ref h16))), (h1, .inl (k0, 256, .inl v_high))] t.heap ∧ va_D (va_A [(h0, .inr (13, oX10 v_there v_count v_captures v_ranges (.ref h2) (.ref h3) (.ref h4) (.ref h5) (.ref h6) (.ref h7) (.ref h8) (.ref h9) (.ref h1) (.ref h10) (.ref h11) (.ref h12) (.ref h13) (.ref h14) (.ref h15) (.ref h16))), (h1, .inl (k0, 256, .inl v_high))] sz) [(h0, .inr (13, oX10 v_there v_count v_captures v_ranges (.ref h2) (.ref h3) (.ref h4) (.ref h5) (.ref h6) (.ref h7) (.ref h8) (.ref h9) (.ref h1) (.ref h10) (.ref h11) (.ref h12) (.ref h13) (.ref h14) (.ref h15) (.ref h16))), (h1, .inl (k0, 256, .inl v_high))]) (va_A [(h0, .inr (13, oX10 v_there v_count v_captures v_ranges (.ref h2) (.ref h3) (.ref h4) (.ref h5) (.ref h6) (.ref h7) (.ref h8) (.ref h9) (.ref h1) (.ref h10) (.ref h11) (.ref h12) (.ref h13) (.ref h14) (.ref h15) (.ref h16))), (h1, .inl (k0, 256, .inl v_high))] sz)) 0 0 (va_A [(h0, .inr (13, oX10 v_there v_count v_captures v_ranges (.ref h2) (.ref h3) (.ref h4) (.ref h5) (.ref h6) (.ref h7) (.ref h8) (.ref h9) (.ref h1) (.ref h10) (.ref h11) (.ref h12) (.ref h13) (.ref h14) (.ref h15) (.ref h16))), (h1, .inl (k0, 256, .inl v_high))] sz) := by
  refine Met.ofW (cc := cX10_highOf) (maxL := 2) (ret := (some (.int))) (by decide) rfl ?_
  intro p e s m args below meth c s₁ B hml hv
  obtain ⟨rfl, hsz, hP, hK, hD0⟩ := hv
  have hx := B.exec
  have hb := B.bytes
  have hr := B.returns
  have hts := atoms_spec (ws := WS yX10_highOf cX10_highOf 2 (some (.int))) B.pre
  have ht : ∀ w ∈ TW, w.before _ s = true := fun w h => hts w (List.mem_cons_of_mem _ h)
  have hown : s.vm.findClass "PatternWorkshop$Tree" = some m.cls := findClass_of_methodNamed B.named
  have hlocks := B.notSynchronized
  subst hsz
  have hD := hD0.self (sz := s.heap.size)
  generalize hAe : va_A [(h0, .inr (13, oX10 v_there v_count v_captures v_ranges (.ref h2) (.ref h3) (.ref h4) (.ref h5) (.ref h6) (.ref h7) (.ref h8) (.ref h9) (.ref h1) (.ref h10) (.ref h11) (.ref h12) (.ref h13) (.ref h14) (.ref h15) (.ref h16))), (h1, .inl (k0, 256, .inl v_high))] s.heap.size = A at hD ⊢
  have hA : ∀ q : Nat, s.heap.size ≤ q → A q := fun q h => by rw [← hAe]; exact Or.inr h
  have hS : va_S A s.heap s.heap [] := va_S.rf
  have hP : va_P (dC, dI) vwCl [(h0, .inr (13, oX10 v_there v_count v_captures v_ranges (.ref h2) (.ref h3) (.ref h4) (.ref h5) (.ref h6) (.ref h7) (.ref h8) (.ref h9) (.ref h1) (.ref h10) (.ref h11) (.ref h12) (.ref h13) (.ref h14) (.ref h15) (.ref h16))), (h1, .inl (k0, 256, .inl v_high))] s.heap := hP
  have hl := lv_entry ([.ref h0, .int p1]) (n := 2) (Nat.le_of_ble_eq_true rfl)
  rw [lg_entry_eq]
  generalize (lg_sl ([.ref h0, .int p1]) ++ List.replicate (2 - (lg_sl ([.ref h0, .int p1])).length) Slot.unset).toArray = ls at hl ⊢
  have hl : lv_has ls 2 [(0, .ref h0), (1, .int p1)] := hl
  clear hD0
  obtain ⟨QQ, hQQ⟩ : ∃ QQ, QQ = MQ below (va_Qi (fun (r u : Int32) => r = u) (fun (u : Int32) (t : State) => (Q u) ∧ va_P (dC, dI) vwCl [(h0, .inr (13, oX10 v_there v_count v_captures v_ranges (.ref h2) (.ref h3) (.ref h4) (.ref h5) (.ref h6) (.ref h7) (.ref h8) (.ref h9) (.ref h1) (.ref h10) (.ref h11) (.ref h12) (.ref h13) (.ref h14) (.ref h15) (.ref h16))), (h1, .inl (k0, 256, .inl v_high))] t.heap ∧ va_D A [(h0, .inr (13, oX10 v_there v_count v_captures v_ranges (.ref h2) (.ref h3) (.ref h4) (.ref h5) (.ref h6) (.ref h7) (.ref h8) (.ref h9) (.ref h1) (.ref h10) (.ref h11) (.ref h12) (.ref h13) (.ref h14) (.ref h15) (.ref h16))), (h1, .inl (k0, 256, .inl v_high))]) A) ([.ref h0, .int p1]).toArray s 0 0 A := ⟨_, rfl⟩
  show W p l e ({ frames := 0, cells := 0, slots := 0, locals := 0 } : Room) s m ([.ref h0, .int p1]).toArray below meth c s.heap [] 0 0 (MQ below (va_Qi (fun (r u : Int32) => r = u) (fun (u : Int32) (t : State) => (Q u) ∧ va_P (dC, dI) vwCl [(h0, .inr (13, oX10 v_there v_count v_captures v_ranges (.ref h2) (.ref h3) (.ref h4) (.ref h5) (.ref h6) (.ref h7) (.ref h8) (.ref h9) (.ref h1) (.ref h10) (.ref h11) (.ref h12) (.ref h13) (.ref h14) (.ref h15) (.ref h16))), (h1, .inl (k0, 256, .inl v_high))] t.heap ∧ va_D A [(h0, .inr (13, oX10 v_there v_count v_captures v_ranges (.ref h2) (.ref h3) (.ref h4) (.ref h5) (.ref h6) (.ref h7) (.ref h8) (.ref h9) (.ref h1) (.ref h10) (.ref h11) (.ref h12) (.ref h13) (.ref h14) (.ref h15) (.ref h16))), (h1, .inl (k0, 256, .inl v_high))]) A) ([.ref h0, .int p1]).toArray s 0 0 A) (F0 m 0 ls [])
  rw [← hQQ]
  unfold w_X10_highOf at w
  refine lv_iload_n hx hb dX10_highOf_0 rfl (lv_at hl 1 rfl) ?_
  have k_22 : ∀ (s0_22 : Int32), ∀ (H_b22 : Heap) (locs_b22 : List Loc) (ls_b22 : Array Slot), w_X10_highOf_22 Q s0_22 → va_P (dC, dI) vwCl [(h0, .inr (13, oX10 v_there v_count v_captures v_ranges (.ref h2) (.ref h3) (.ref h4) (.ref h5) (.ref h6) (.ref h7) (.ref h8) (.ref h9) (.ref h1) (.ref h10) (.ref h11) (.ref h12) (.ref h13) (.ref h14) (.ref h15) (.ref h16))), (h1, .inl (k0, 256, .inl v_high))] H_b22 → va_D A [(h0, .inr (13, oX10 v_there v_count v_captures v_ranges (.ref h2) (.ref h3) (.ref h4) (.ref h5) (.ref h6) (.ref h7) (.ref h8) (.ref h9) (.ref h1) (.ref h10) (.ref h11) (.ref h12) (.ref h13) (.ref h14) (.ref h15) (.ref h16))), (h1, .inl (k0, 256, .inl v_high))] → va_S A s.heap H_b22 locs_b22 → lv_has ls_b22 2 [] → W p l e ({ frames := 0, cells := 0, slots := 0, locals := 0 } : Room) s m ([.ref h0, .int p1]).toArray below meth c H_b22 locs_b22 0 0 QQ (F0 m 22 ls_b22 [.int s0_22]) := by
    intro s0_22 H_b22 locs_b22 ls_b22 w_b22 hP_b22 hD_b22 hS_b22 hl_b22
    unfold w_X10_highOf_22 at w_b22
    rw [hQQ]
    exact W.iret (v := s0_22) hx hb hr (fun t9 ht9 hW9 => ⟨⟨s0_22, s0_22, rfl, rfl, ⟨w_b22, by rw [ht9]; exact hP_b22, hD_b22⟩⟩, hS_b22.F ht9⟩) hS_b22.2.2 dX10_highOf_22
  have k_21 : ∀ (H_b21 : Heap) (locs_b21 : List Loc) (ls_b21 : Array Slot), w_X10_highOf_21 Q → va_P (dC, dI) vwCl [(h0, .inr (13, oX10 v_there v_count v_captures v_ranges (.ref h2) (.ref h3) (.ref h4) (.ref h5) (.ref h6) (.ref h7) (.ref h8) (.ref h9) (.ref h1) (.ref h10) (.ref h11) (.ref h12) (.ref h13) (.ref h14) (.ref h15) (.ref h16))), (h1, .inl (k0, 256, .inl v_high))] H_b21 → va_D A [(h0, .inr (13, oX10 v_there v_count v_captures v_ranges (.ref h2) (.ref h3) (.ref h4) (.ref h5) (.ref h6) (.ref h7) (.ref h8) (.ref h9) (.ref h1) (.ref h10) (.ref h11) (.ref h12) (.ref h13) (.ref h14) (.ref h15) (.ref h16))), (h1, .inl (k0, 256, .inl v_high))] → va_S A s.heap H_b21 locs_b21 → lv_has ls_b21 2 [] → W p l e ({ frames := 0, cells := 0, slots := 0, locals := 0 } : Room) s m ([.ref h0, .int p1]).toArray below meth c H_b21 locs_b21 0 0 QQ (F0 m 21 ls_b21 []) := by
    intro  H_b21 locs_b21 ls_b21 w_b21 hP_b21 hD_b21 hS_b21 hl_b21
    unfold w_X10_highOf_21 at w_b21
    refine lv_iconst (v := 0) hx hb dX10_highOf_21 (by decide) ?_
    exact k_22 0 _ _ _ w_b21 hP_b21 hD_b21 hS_b21 (lv_sub hl_b21 [] rfl)
  refine lv_if_lt (tgt := 21) hx hb dX10_highOf_1 (by decide) (fun c_1 => ?_) (fun c_1 => ?_)
  · exact k_21  _ _ _ (w.1 c_1) hP hD hS (lv_sub hl [] rfl)
  · refine lv_iload_n hx hb dX10_highOf_4 rfl (lv_at hl 1 rfl) ?_
    refine lv_aload_n hx hb dX10_highOf_5 rfl (lv_at hl 0 rfl) ?_
    refine va_get (D := (dC, dI)) (ci := 13) (v := .int v_count) (C := RX10) (T := TX10) (N := 20) hx hb ht inX10 hown hK hP 0 rfl rfl 1 (by decide) (ht _ tw_319) (fun _ h9 => h9) rfl dX10_highOf_6 ?_
    refine lv_icmp_ge (tgt := 21) hx hb dX10_highOf_9 (by decide) (fun c_2 => ?_) (fun c_2 => ?_)
    · exact k_21  _ _ _ ((w.2 c_1).1 c_2) hP hD hS (lv_sub hl [] rfl)
    · refine lv_aload_n hx hb dX10_highOf_12 rfl (lv_at hl 0 rfl) ?_
      refine va_get (D := (dC, dI)) (ci := 13) (v := .ref h1) (C := RX10) (T := TX10) (N := 20) hx hb ht inX10 hown hK hP 0 rfl rfl 12 (by decide) (ht _ tw_335) (fun _ h9 => h9) rfl dX10_highOf_13 ?_
      refine lv_iload_n hx hb dX10_highOf_16 rfl (lv_at hl 1 rfl) ?_
      refine va_iald hx hb hK hP 1 0 rfl rfl (i := p1) ((w.2 c_1).2 c_2).1 dX10_highOf_17 ?_
      refine lv_topi (fun x_3 ex_3 => ?_)
      have ex_3 : x_3 = v_high p1.toNatClampNeg := ex_3
      refine lv_goto (tgt := 22) hx hb dX10_highOf_18 (by decide) ?_
      exact k_22 x_3 _ _ _ ((((w.2 c_1).2 c_2).2) x_3 ex_3) hP hD hS (lv_sub hl [] rfl)
def w_X10_lastOf_22 (Q : Int32 → Prop) (s0_22 : Int32) : Prop :=
  Q s0_22
def w_X10_lastOf_21 (Q : Int32 → Prop) : Prop :=
  w_X10_lastOf_22 Q (-1)
def w_X10_lastOf (p1 : Int32) (v_count : Int32) (v_last : Nat → Int32) (Q : Int32 → Prop) : Prop :=
  ((p1 < 0) → w_X10_lastOf_21 Q) ∧ ((¬ p1 < 0) → ((v_count ≤ p1) → w_X10_lastOf_21 Q) ∧ ((¬ v_count ≤ p1) → vp_in p1 256 ∧ ∀ x_3 : Int32, x_3 = v_last p1.toNatClampNeg → w_X10_lastOf_22 Q x_3))
set_option maxHeartbeats 4000000 in
set_option maxRecDepth 100000 in
theorem mt_X10_lastOf (l : Launch) (dC : Nat → ClassId) (dI : Nat → Nat → Nat) (h0 h1 h2 h3 h4 h5 h6 h7 h8 h9 h10 h11 h12 h13 h14 h15 h16 : Nat) (k0 : ClassId) (p1 : Int32) (v_there : Bool) (v_count : Int32) (v_captures : Int32) (v_ranges : Int32) (v_last : Nat → Int32) (Q : Int32 → Prop) (w : w_X10_lastOf p1 v_count v_last Q) (sz : Nat) : Met l yX10_lastOf (WS yX10_lastOf cX10_lastOf 2 (some (.int))) ({ frames := 0, cells := 0, slots := 0, locals := 0 } : Room) (va_Pc [.ref h0, .int p1] (fun U => U.heap.size = sz ∧ va_P (dC, dI) vwCl [(h0, .inr (13, oX10 v_there v_count v_captures v_ranges (.ref h2) (.ref h3) (.ref h4) (.ref h5) (.ref h1) (.ref h6) (.ref h7) (.ref h8) (.ref h9) (.ref h10) (.ref h11) (.ref h12) (.ref h13) (.ref h14) (.ref h15) (.ref h16))), (h1, .inl (k0, 256, .inl v_last))] U.heap ∧ va_K (dC, dI) vwCl [(k0, .int)] U ∧ va_D (fun _ => True) [(h0, .inr (13, oX10 v_there v_count v_captures v_ranges (.ref h2) (.ref h3) (.ref h4) (.ref h5) (.ref h1) (.ref h6) (.ref h7) (.ref h8) (.ref h9) (.ref h10) (.ref h11) (.ref h12) (.ref h13) (.ref h14) (.ref h15) (.ref h16))), (h1, .inl (k0, 256, .inl v_last))])) (va_Qi (fun (r u : Int32) => r = u) (fun (u : Int32) (t : State) => (Q u) ∧ va_P (dC, dI) vwCl [(h0, .inr (13, oX10 v_there v_count v_captures v_ranges (.ref h2) (.ref h3) (.ref h4) (.ref h5) (.ref h1) (.ref h6) (.ref h7) (.ref h8) (.ref h9) (.ref h10) (.ref h11) (.ref h12) (.ref h13) (.ref h14) (.ref h15) (.ref h16))), (h1, .inl (k0, 256, .inl v_last))] t.heap ∧ va_D (va_A [(h0, .inr (13, oX10 v_there v_count v_captures v_ranges (.ref h2) (.ref h3) (.ref h4) (.ref h5) (.ref h1) (.ref h6) (.ref h7) (.ref h8) (.ref h9) (.ref h10) (.ref h11) (.ref h12) (.ref h13) (.ref h14) (.ref h15) (.ref h16))), (h1, .inl (k0, 256, .inl v_last))] sz) [(h0, .inr (13, oX10 v_there v_count v_captures v_ranges (.ref h2) (.ref h3) (.ref h4) (.ref h5) (.ref h1) (.ref h6) (.ref h7) (.ref h8) (.ref h9) (.ref h10) (.ref h11) (.ref h12) (.ref h13) (.ref h14) (.ref h15) (.ref h16))), (h1, .inl (k0, 256, .inl v_last))]) (va_A [(h0, .inr (13, oX10 v_there v_count v_captures v_ranges (.ref h2) (.ref h3) (.ref h4) (.ref h5) (.ref h1) (.ref h6) (.ref h7) (.ref h8) (.ref h9) (.ref h10) (.ref h11) (.ref h12) (.ref h13) (.ref h14) (.ref h15) (.ref h16))), (h1, .inl (k0, 256, .inl v_last))] sz)) 0 0 (va_A [(h0, .inr (13, oX10 v_there v_count v_captures v_ranges (.ref h2) (.ref h3) (.ref h4) (.ref h5) (.ref h1) (.ref h6) (.ref h7) (.ref h8) (.ref h9) (.ref h10) (.ref h11) (.ref h12) (.ref h13) (.ref h14) (.ref h15) (.ref h16))), (h1, .inl (k0, 256, .inl v_last))] sz) := by
  refine Met.ofW (cc := cX10_lastOf) (maxL := 2) (ret := (some (.int))) (by decide) rfl ?_
  intro p e s m args below meth c s₁ B hml hv
  obtain ⟨rfl, hsz, hP, hK, hD0⟩ := hv
  have hx := B.exec
  have hb := B.bytes
  have hr := B.returns
  have hts := atoms_spec (ws := WS yX10_lastOf cX10_lastOf 2 (some (.int))) B.pre
  have ht : ∀ w ∈ TW, w.before _ s = true := fun w h => hts w (List.mem_cons_of_mem _ h)
  have hown : s.vm.findClass "PatternWorkshop$Tree" = some m.cls := findClass_of_methodNamed B.named
  have hlocks := B.notSynchronized
  subst hsz
  have hD := hD0.self (sz := s.heap.size)
  generalize hAe : va_A [(h0, .inr (13, oX10 v_there v_count v_captures v_ranges (.ref h2) (.ref h3) (.ref h4) (.ref h5) (.ref h1) (.ref h6) (.ref h7) (.ref h8) (.ref h9) (.ref h10) (.ref h11) (.ref h12) (.ref h13) (.ref h14) (.ref h15) (.ref h16))), (h1, .inl (k0, 256, .inl v_last))] s.heap.size = A at hD ⊢
  have hA : ∀ q : Nat, s.heap.size ≤ q → A q := fun q h => by rw [← hAe]; exact Or.inr h
  have hS : va_S A s.heap s.heap [] := va_S.rf
  have hP : va_P (dC, dI) vwCl [(h0, .inr (13, oX10 v_there v_count v_captures v_ranges (.ref h2) (.ref h3) (.ref h4) (.ref h5) (.ref h1) (.ref h6) (.ref h7) (.ref h8) (.ref h9) (.ref h10) (.ref h11) (.ref h12) (.ref h13) (.ref h14) (.ref h15) (.ref h16))), (h1, .inl (k0, 256, .inl v_last))] s.heap := hP
  have hl := lv_entry ([.ref h0, .int p1]) (n := 2) (Nat.le_of_ble_eq_true rfl)
  rw [lg_entry_eq]
  generalize (lg_sl ([.ref h0, .int p1]) ++ List.replicate (2 - (lg_sl ([.ref h0, .int p1])).length) Slot.unset).toArray = ls at hl ⊢
  have hl : lv_has ls 2 [(0, .ref h0), (1, .int p1)] := hl
  clear hD0
  obtain ⟨QQ, hQQ⟩ : ∃ QQ, QQ = MQ below (va_Qi (fun (r u : Int32) => r = u) (fun (u : Int32) (t : State) => (Q u) ∧ va_P (dC, dI) vwCl [(h0, .inr (13, oX10 v_there v_count v_captures v_ranges (.ref h2) (.ref h3) (.ref h4) (.ref h5) (.ref h1) (.ref h6) (.ref h7) (.ref h8) (.ref h9) (.ref h10) (.ref h11) (.ref h12) (.ref h13) (.ref h14) (.ref h15) (.ref h16))), (h1, .inl (k0, 256, .inl v_last))] t.heap ∧ va_D A [(h0, .inr (13, oX10 v_there v_count v_captures v_ranges (.ref h2) (.ref h3) (.ref h4) (.ref h5) (.ref h1) (.ref h6) (.ref h7) (.ref h8) (.ref h9) (.ref h10) (.ref h11) (.ref h12) (.ref h13) (.ref h14) (.ref h15) (.ref h16))), (h1, .inl (k0, 256, .inl v_last))]) A) ([.ref h0, .int p1]).toArray s 0 0 A := ⟨_, rfl⟩
  show W p l e ({ frames := 0, cells := 0, slots := 0, locals := 0 } : Room) s m ([.ref h0, .int p1]).toArray below meth c s.heap [] 0 0 (MQ below (va_Qi (fun (r u : Int32) => r = u) (fun (u : Int32) (t : State) => (Q u) ∧ va_P (dC, dI) vwCl [(h0, .inr (13, oX10 v_there v_count v_captures v_ranges (.ref h2) (.ref h3) (.ref h4) (.ref h5) (.ref h1) (.ref h6) (.ref h7) (.ref h8) (.ref h9) (.ref h10) (.ref h11) (.ref h12) (.ref h13) (.ref h14) (.ref h15) (.ref h16))), (h1, .inl (k0, 256, .inl v_last))] t.heap ∧ va_D A [(h0, .inr (13, oX10 v_there v_count v_captures v_ranges (.ref h2) (.ref h3) (.ref h4) (.ref h5) (.ref h1) (.ref h6) (.ref h7) (.ref h8) (.ref h9) (.ref h10) (.ref h11) (.ref h12) (.ref h13) (.ref h14) (.ref h15) (.ref h16))), (h1, .inl (k0, 256, .inl v_last))]) A) ([.ref h0, .int p1]).toArray s 0 0 A) (F0 m 0 ls [])
  rw [← hQQ]
  unfold w_X10_lastOf at w
  refine lv_iload_n hx hb dX10_lastOf_0 rfl (lv_at hl 1 rfl) ?_
  have k_22 : ∀ (s0_22 : Int32), ∀ (H_b22 : Heap) (locs_b22 : List Loc) (ls_b22 : Array Slot), w_X10_lastOf_22 Q s0_22 → va_P (dC, dI) vwCl [(h0, .inr (13, oX10 v_there v_count v_captures v_ranges (.ref h2) (.ref h3) (.ref h4) (.ref h5) (.ref h1) (.ref h6) (.ref h7) (.ref h8) (.ref h9) (.ref h10) (.ref h11) (.ref h12) (.ref h13) (.ref h14) (.ref h15) (.ref h16))), (h1, .inl (k0, 256, .inl v_last))] H_b22 → va_D A [(h0, .inr (13, oX10 v_there v_count v_captures v_ranges (.ref h2) (.ref h3) (.ref h4) (.ref h5) (.ref h1) (.ref h6) (.ref h7) (.ref h8) (.ref h9) (.ref h10) (.ref h11) (.ref h12) (.ref h13) (.ref h14) (.ref h15) (.ref h16))), (h1, .inl (k0, 256, .inl v_last))] → va_S A s.heap H_b22 locs_b22 → lv_has ls_b22 2 [] → W p l e ({ frames := 0, cells := 0, slots := 0, locals := 0 } : Room) s m ([.ref h0, .int p1]).toArray below meth c H_b22 locs_b22 0 0 QQ (F0 m 22 ls_b22 [.int s0_22]) := by
    intro s0_22 H_b22 locs_b22 ls_b22 w_b22 hP_b22 hD_b22 hS_b22 hl_b22
    unfold w_X10_lastOf_22 at w_b22
    rw [hQQ]
    exact W.iret (v := s0_22) hx hb hr (fun t9 ht9 hW9 => ⟨⟨s0_22, s0_22, rfl, rfl, ⟨w_b22, by rw [ht9]; exact hP_b22, hD_b22⟩⟩, hS_b22.F ht9⟩) hS_b22.2.2 dX10_lastOf_22
  have k_21 : ∀ (H_b21 : Heap) (locs_b21 : List Loc) (ls_b21 : Array Slot), w_X10_lastOf_21 Q → va_P (dC, dI) vwCl [(h0, .inr (13, oX10 v_there v_count v_captures v_ranges (.ref h2) (.ref h3) (.ref h4) (.ref h5) (.ref h1) (.ref h6) (.ref h7) (.ref h8) (.ref h9) (.ref h10) (.ref h11) (.ref h12) (.ref h13) (.ref h14) (.ref h15) (.ref h16))), (h1, .inl (k0, 256, .inl v_last))] H_b21 → va_D A [(h0, .inr (13, oX10 v_there v_count v_captures v_ranges (.ref h2) (.ref h3) (.ref h4) (.ref h5) (.ref h1) (.ref h6) (.ref h7) (.ref h8) (.ref h9) (.ref h10) (.ref h11) (.ref h12) (.ref h13) (.ref h14) (.ref h15) (.ref h16))), (h1, .inl (k0, 256, .inl v_last))] → va_S A s.heap H_b21 locs_b21 → lv_has ls_b21 2 [] → W p l e ({ frames := 0, cells := 0, slots := 0, locals := 0 } : Room) s m ([.ref h0, .int p1]).toArray below meth c H_b21 locs_b21 0 0 QQ (F0 m 21 ls_b21 []) := by
    intro  H_b21 locs_b21 ls_b21 w_b21 hP_b21 hD_b21 hS_b21 hl_b21
    unfold w_X10_lastOf_21 at w_b21
    refine lv_iconst (v := (-1)) hx hb dX10_lastOf_21 (by decide) ?_
    exact k_22 (-1) _ _ _ w_b21 hP_b21 hD_b21 hS_b21 (lv_sub hl_b21 [] rfl)
  refine lv_if_lt (tgt := 21) hx hb dX10_lastOf_1 (by decide) (fun c_1 => ?_) (fun c_1 => ?_)
  · exact k_21  _ _ _ (w.1 c_1) hP hD hS (lv_sub hl [] rfl)
  · refine lv_iload_n hx hb dX10_lastOf_4 rfl (lv_at hl 1 rfl) ?_
    refine lv_aload_n hx hb dX10_lastOf_5 rfl (lv_at hl 0 rfl) ?_
    refine va_get (D := (dC, dI)) (ci := 13) (v := .int v_count) (C := RX10) (T := TX10) (N := 20) hx hb ht inX10 hown hK hP 0 rfl rfl 1 (by decide) (ht _ tw_319) (fun _ h9 => h9) rfl dX10_lastOf_6 ?_
    refine lv_icmp_ge (tgt := 21) hx hb dX10_lastOf_9 (by decide) (fun c_2 => ?_) (fun c_2 => ?_)
    · exact k_21  _ _ _ ((w.2 c_1).1 c_2) hP hD hS (lv_sub hl [] rfl)
    · refine lv_aload_n hx hb dX10_lastOf_12 rfl (lv_at hl 0 rfl) ?_
      refine va_get (D := (dC, dI)) (ci := 13) (v := .ref h1) (C := RX10) (T := TX10) (N := 20) hx hb ht inX10 hown hK hP 0 rfl rfl 8 (by decide) (ht _ tw_331) (fun _ h9 => h9) rfl dX10_lastOf_13 ?_
      refine lv_iload_n hx hb dX10_lastOf_16 rfl (lv_at hl 1 rfl) ?_
      refine va_iald hx hb hK hP 1 0 rfl rfl (i := p1) ((w.2 c_1).2 c_2).1 dX10_lastOf_17 ?_
      refine lv_topi (fun x_3 ex_3 => ?_)
      have ex_3 : x_3 = v_last p1.toNatClampNeg := ex_3
      refine lv_goto (tgt := 22) hx hb dX10_lastOf_18 (by decide) ?_
      exact k_22 x_3 _ _ _ ((((w.2 c_1).2 c_2).2) x_3 ex_3) hP hD hS (lv_sub hl [] rfl)
def w_X10_beforeOf_22 (Q : Int32 → Prop) (s0_22 : Int32) : Prop :=
  Q s0_22
def w_X10_beforeOf_21 (Q : Int32 → Prop) : Prop :=
  w_X10_beforeOf_22 Q (-1)
def w_X10_beforeOf (p1 : Int32) (v_count : Int32) (v_before : Nat → Int32) (Q : Int32 → Prop) : Prop :=
  ((p1 < 0) → w_X10_beforeOf_21 Q) ∧ ((¬ p1 < 0) → ((v_count ≤ p1) → w_X10_beforeOf_21 Q) ∧ ((¬ v_count ≤ p1) → vp_in p1 256 ∧ ∀ x_3 : Int32, x_3 = v_before p1.toNatClampNeg → w_X10_beforeOf_22 Q x_3))
set_option maxHeartbeats 4000000 in
set_option maxRecDepth 100000 in
theorem mt_X10_beforeOf (l : Launch) (dC : Nat → ClassId) (dI : Nat → Nat → Nat) (h0 h1 h2 h3 h4 h5 h6 h7 h8 h9 h10 h11 h12 h13 h14 h15 h16 : Nat) (k0 : ClassId) (p1 : Int32) (v_there : Bool) (v_count : Int32) (v_captures : Int32) (v_ranges : Int32) (v_before : Nat → Int32) (Q : Int32 → Prop) (w : w_X10_beforeOf p1 v_count v_before Q) (sz : Nat) : Met l yX10_beforeOf (WS yX10_beforeOf cX10_beforeOf 2 (some (.int))) ({ frames := 0, cells := 0, slots := 0, locals := 0 } : Room) (va_Pc [.ref h0, .int p1] (fun U => U.heap.size = sz ∧ va_P (dC, dI) vwCl [(h0, .inr (13, oX10 v_there v_count v_captures v_ranges (.ref h2) (.ref h3) (.ref h4) (.ref h1) (.ref h5) (.ref h6) (.ref h7) (.ref h8) (.ref h9) (.ref h10) (.ref h11) (.ref h12) (.ref h13) (.ref h14) (.ref h15) (.ref h16))), (h1, .inl (k0, 256, .inl v_before))] U.heap ∧ va_K (dC, dI) vwCl [(k0, .int)] U ∧ va_D (fun _ => True) [(h0, .inr (13, oX10 v_there v_count v_captures v_ranges (.ref h2) (.ref h3) (.ref h4) (.ref h1) (.ref h5) (.ref h6) (.ref h7) (.ref h8) (.ref h9) (.ref h10) (.ref h11) (.ref h12) (.ref h13) (.ref h14) (.ref h15) (.ref h16))), (h1, .inl (k0, 256, .inl v_before))])) (va_Qi (fun (r u : Int32) => r = u) (fun (u : Int32) (t : State) => (Q u) ∧ va_P (dC, dI) vwCl [(h0, .inr (13, oX10 v_there v_count v_captures v_ranges (.ref h2) (.ref h3) (.ref h4) (.ref h1) (.ref h5) (.ref h6) (.ref h7) (.ref h8) (.ref h9) (.ref h10) (.ref h11) (.ref h12) (.ref h13) (.ref h14) (.ref h15) (.ref h16))), (h1, .inl (k0, 256, .inl v_before))] t.heap ∧ va_D (va_A [(h0, .inr (13, oX10 v_there v_count v_captures v_ranges (.ref h2) (.ref h3) (.ref h4) (.ref h1) (.ref h5) (.ref h6) (.ref h7) (.ref h8) (.ref h9) (.ref h10) (.ref h11) (.ref h12) (.ref h13) (.ref h14) (.ref h15) (.ref h16))), (h1, .inl (k0, 256, .inl v_before))] sz) [(h0, .inr (13, oX10 v_there v_count v_captures v_ranges (.ref h2) (.ref h3) (.ref h4) (.ref h1) (.ref h5) (.ref h6) (.ref h7) (.ref h8) (.ref h9) (.ref h10) (.ref h11) (.ref h12) (.ref h13) (.ref h14) (.ref h15) (.ref h16))), (h1, .inl (k0, 256, .inl v_before))]) (va_A [(h0, .inr (13, oX10 v_there v_count v_captures v_ranges (.ref h2) (.ref h3) (.ref h4) (.ref h1) (.ref h5) (.ref h6) (.ref h7) (.ref h8) (.ref h9) (.ref h10) (.ref h11) (.ref h12) (.ref h13) (.ref h14) (.ref h15) (.ref h16))), (h1, .inl (k0, 256, .inl v_before))] sz)) 0 0 (va_A [(h0, .inr (13, oX10 v_there v_count v_captures v_ranges (.ref h2) (.ref h3) (.ref h4) (.ref h1) (.ref h5) (.ref h6) (.ref h7) (.ref h8) (.ref h9) (.ref h10) (.ref h11) (.ref h12) (.ref h13) (.ref h14) (.ref h15) (.ref h16))), (h1, .inl (k0, 256, .inl v_before))] sz) := by
  refine Met.ofW (cc := cX10_beforeOf) (maxL := 2) (ret := (some (.int))) (by decide) rfl ?_
  intro p e s m args below meth c s₁ B hml hv
  obtain ⟨rfl, hsz, hP, hK, hD0⟩ := hv
  have hx := B.exec
  have hb := B.bytes
  have hr := B.returns
  have hts := atoms_spec (ws := WS yX10_beforeOf cX10_beforeOf 2 (some (.int))) B.pre
  have ht : ∀ w ∈ TW, w.before _ s = true := fun w h => hts w (List.mem_cons_of_mem _ h)
  have hown : s.vm.findClass "PatternWorkshop$Tree" = some m.cls := findClass_of_methodNamed B.named
  have hlocks := B.notSynchronized
  subst hsz
  have hD := hD0.self (sz := s.heap.size)
  generalize hAe : va_A [(h0, .inr (13, oX10 v_there v_count v_captures v_ranges (.ref h2) (.ref h3) (.ref h4) (.ref h1) (.ref h5) (.ref h6) (.ref h7) (.ref h8) (.ref h9) (.ref h10) (.ref h11) (.ref h12) (.ref h13) (.ref h14) (.ref h15) (.ref h16))), (h1, .inl (k0, 256, .inl v_before))] s.heap.size = A at hD ⊢
  have hA : ∀ q : Nat, s.heap.size ≤ q → A q := fun q h => by rw [← hAe]; exact Or.inr h
  have hS : va_S A s.heap s.heap [] := va_S.rf
  have hP : va_P (dC, dI) vwCl [(h0, .inr (13, oX10 v_there v_count v_captures v_ranges (.ref h2) (.ref h3) (.ref h4) (.ref h1) (.ref h5) (.ref h6) (.ref h7) (.ref h8) (.ref h9) (.ref h10) (.ref h11) (.ref h12) (.ref h13) (.ref h14) (.ref h15) (.ref h16))), (h1, .inl (k0, 256, .inl v_before))] s.heap := hP
  have hl := lv_entry ([.ref h0, .int p1]) (n := 2) (Nat.le_of_ble_eq_true rfl)
  rw [lg_entry_eq]
  generalize (lg_sl ([.ref h0, .int p1]) ++ List.replicate (2 - (lg_sl ([.ref h0, .int p1])).length) Slot.unset).toArray = ls at hl ⊢
  have hl : lv_has ls 2 [(0, .ref h0), (1, .int p1)] := hl
  clear hD0
  obtain ⟨QQ, hQQ⟩ : ∃ QQ, QQ = MQ below (va_Qi (fun (r u : Int32) => r = u) (fun (u : Int32) (t : State) => (Q u) ∧ va_P (dC, dI) vwCl [(h0, .inr (13, oX10 v_there v_count v_captures v_ranges (.ref h2) (.ref h3) (.ref h4) (.ref h1) (.ref h5) (.ref h6) (.ref h7) (.ref h8) (.ref h9) (.ref h10) (.ref h11) (.ref h12) (.ref h13) (.ref h14) (.ref h15) (.ref h16))), (h1, .inl (k0, 256, .inl v_before))] t.heap ∧ va_D A [(h0, .inr (13, oX10 v_there v_count v_captures v_ranges (.ref h2) (.ref h3) (.ref h4) (.ref h1) (.ref h5) (.ref h6) (.ref h7) (.ref h8) (.ref h9) (.ref h10) (.ref h11) (.ref h12) (.ref h13) (.ref h14) (.ref h15) (.ref h16))), (h1, .inl (k0, 256, .inl v_before))]) A) ([.ref h0, .int p1]).toArray s 0 0 A := ⟨_, rfl⟩
  show W p l e ({ frames := 0, cells := 0, slots := 0, locals := 0 } : Room) s m ([.ref h0, .int p1]).toArray below meth c s.heap [] 0 0 (MQ below (va_Qi (fun (r u : Int32) => r = u) (fun (u : Int32) (t : State) => (Q u) ∧ va_P (dC, dI) vwCl [(h0, .inr (13, oX10 v_there v_count v_captures v_ranges (.ref h2) (.ref h3) (.ref h4) (.ref h1) (.ref h5) (.ref h6) (.ref h7) (.ref h8) (.ref h9) (.ref h10) (.ref h11) (.ref h12) (.ref h13) (.ref h14) (.ref h15) (.ref h16))), (h1, .inl (k0, 256, .inl v_before))] t.heap ∧ va_D A [(h0, .inr (13, oX10 v_there v_count v_captures v_ranges (.ref h2) (.ref h3) (.ref h4) (.ref h1) (.ref h5) (.ref h6) (.ref h7) (.ref h8) (.ref h9) (.ref h10) (.ref h11) (.ref h12) (.ref h13) (.ref h14) (.ref h15) (.ref h16))), (h1, .inl (k0, 256, .inl v_before))]) A) ([.ref h0, .int p1]).toArray s 0 0 A) (F0 m 0 ls [])
  rw [← hQQ]
  unfold w_X10_beforeOf at w
  refine lv_iload_n hx hb dX10_beforeOf_0 rfl (lv_at hl 1 rfl) ?_
  have k_22 : ∀ (s0_22 : Int32), ∀ (H_b22 : Heap) (locs_b22 : List Loc) (ls_b22 : Array Slot), w_X10_beforeOf_22 Q s0_22 → va_P (dC, dI) vwCl [(h0, .inr (13, oX10 v_there v_count v_captures v_ranges (.ref h2) (.ref h3) (.ref h4) (.ref h1) (.ref h5) (.ref h6) (.ref h7) (.ref h8) (.ref h9) (.ref h10) (.ref h11) (.ref h12) (.ref h13) (.ref h14) (.ref h15) (.ref h16))), (h1, .inl (k0, 256, .inl v_before))] H_b22 → va_D A [(h0, .inr (13, oX10 v_there v_count v_captures v_ranges (.ref h2) (.ref h3) (.ref h4) (.ref h1) (.ref h5) (.ref h6) (.ref h7) (.ref h8) (.ref h9) (.ref h10) (.ref h11) (.ref h12) (.ref h13) (.ref h14) (.ref h15) (.ref h16))), (h1, .inl (k0, 256, .inl v_before))] → va_S A s.heap H_b22 locs_b22 → lv_has ls_b22 2 [] → W p l e ({ frames := 0, cells := 0, slots := 0, locals := 0 } : Room) s m ([.ref h0, .int p1]).toArray below meth c H_b22 locs_b22 0 0 QQ (F0 m 22 ls_b22 [.int s0_22]) := by
    intro s0_22 H_b22 locs_b22 ls_b22 w_b22 hP_b22 hD_b22 hS_b22 hl_b22
    unfold w_X10_beforeOf_22 at w_b22
    rw [hQQ]
    exact W.iret (v := s0_22) hx hb hr (fun t9 ht9 hW9 => ⟨⟨s0_22, s0_22, rfl, rfl, ⟨w_b22, by rw [ht9]; exact hP_b22, hD_b22⟩⟩, hS_b22.F ht9⟩) hS_b22.2.2 dX10_beforeOf_22
  have k_21 : ∀ (H_b21 : Heap) (locs_b21 : List Loc) (ls_b21 : Array Slot), w_X10_beforeOf_21 Q → va_P (dC, dI) vwCl [(h0, .inr (13, oX10 v_there v_count v_captures v_ranges (.ref h2) (.ref h3) (.ref h4) (.ref h1) (.ref h5) (.ref h6) (.ref h7) (.ref h8) (.ref h9) (.ref h10) (.ref h11) (.ref h12) (.ref h13) (.ref h14) (.ref h15) (.ref h16))), (h1, .inl (k0, 256, .inl v_before))] H_b21 → va_D A [(h0, .inr (13, oX10 v_there v_count v_captures v_ranges (.ref h2) (.ref h3) (.ref h4) (.ref h1) (.ref h5) (.ref h6) (.ref h7) (.ref h8) (.ref h9) (.ref h10) (.ref h11) (.ref h12) (.ref h13) (.ref h14) (.ref h15) (.ref h16))), (h1, .inl (k0, 256, .inl v_before))] → va_S A s.heap H_b21 locs_b21 → lv_has ls_b21 2 [] → W p l e ({ frames := 0, cells := 0, slots := 0, locals := 0 } : Room) s m ([.ref h0, .int p1]).toArray below meth c H_b21 locs_b21 0 0 QQ (F0 m 21 ls_b21 []) := by
    intro  H_b21 locs_b21 ls_b21 w_b21 hP_b21 hD_b21 hS_b21 hl_b21
    unfold w_X10_beforeOf_21 at w_b21
    refine lv_iconst (v := (-1)) hx hb dX10_beforeOf_21 (by decide) ?_
    exact k_22 (-1) _ _ _ w_b21 hP_b21 hD_b21 hS_b21 (lv_sub hl_b21 [] rfl)
  refine lv_if_lt (tgt := 21) hx hb dX10_beforeOf_1 (by decide) (fun c_1 => ?_) (fun c_1 => ?_)
  · exact k_21  _ _ _ (w.1 c_1) hP hD hS (lv_sub hl [] rfl)
  · refine lv_iload_n hx hb dX10_beforeOf_4 rfl (lv_at hl 1 rfl) ?_
    refine lv_aload_n hx hb dX10_beforeOf_5 rfl (lv_at hl 0 rfl) ?_
    refine va_get (D := (dC, dI)) (ci := 13) (v := .int v_count) (C := RX10) (T := TX10) (N := 20) hx hb ht inX10 hown hK hP 0 rfl rfl 1 (by decide) (ht _ tw_319) (fun _ h9 => h9) rfl dX10_beforeOf_6 ?_
    refine lv_icmp_ge (tgt := 21) hx hb dX10_beforeOf_9 (by decide) (fun c_2 => ?_) (fun c_2 => ?_)
    · exact k_21  _ _ _ ((w.2 c_1).1 c_2) hP hD hS (lv_sub hl [] rfl)
    · refine lv_aload_n hx hb dX10_beforeOf_12 rfl (lv_at hl 0 rfl) ?_
      refine va_get (D := (dC, dI)) (ci := 13) (v := .ref h1) (C := RX10) (T := TX10) (N := 20) hx hb ht inX10 hown hK hP 0 rfl rfl 7 (by decide) (ht _ tw_330) (fun _ h9 => h9) rfl dX10_beforeOf_13 ?_
      refine lv_iload_n hx hb dX10_beforeOf_16 rfl (lv_at hl 1 rfl) ?_
      refine va_iald hx hb hK hP 1 0 rfl rfl (i := p1) ((w.2 c_1).2 c_2).1 dX10_beforeOf_17 ?_
      refine lv_topi (fun x_3 ex_3 => ?_)
      have ex_3 : x_3 = v_before p1.toNatClampNeg := ex_3
      refine lv_goto (tgt := 22) hx hb dX10_beforeOf_18 (by decide) ?_
      exact k_22 x_3 _ _ _ ((((w.2 c_1).2 c_2).2) x_3 ex_3) hP hD hS (lv_sub hl [] rfl)
def w_X10_endOf_25 (Q : Int32 → Prop) (s0_25 : Int32) : Prop :=
  Q s0_25
def w_X10_endOf_21 (v_count : Int32) (Q : Int32 → Prop) : Prop :=
  w_X10_endOf_25 Q v_count
def w_X10_endOf (p1 : Int32) (v_count : Int32) (v_end : Nat → Int32) (Q : Int32 → Prop) : Prop :=
  ((p1 < 0) → w_X10_endOf_21 v_count Q) ∧ ((¬ p1 < 0) → ((v_count ≤ p1) → w_X10_endOf_21 v_count Q) ∧ ((¬ v_count ≤ p1) → vp_in p1 256 ∧ ∀ x_3 : Int32, x_3 = v_end p1.toNatClampNeg → w_X10_endOf_25 Q x_3))
set_option maxHeartbeats 4000000 in
set_option maxRecDepth 100000 in
theorem mt_X10_endOf (l : Launch) (dC : Nat → ClassId) (dI : Nat → Nat → Nat) (h0 h1 h2 h3 h4 h5 h6 h7 h8 h9 h10 h11 h12 h13 h14 h15 h16 : Nat) (k0 : ClassId) (p1 : Int32) (v_there : Bool) (v_count : Int32) (v_captures : Int32) (v_ranges : Int32) (v_end : Nat → Int32) (Q : Int32 → Prop) (w : w_X10_endOf p1 v_count v_end Q) (sz : Nat) : Met l yX10_endOf (WS yX10_endOf cX10_endOf 2 (some (.int))) ({ frames := 0, cells := 0, slots := 0, locals := 0 } : Room) (va_Pc [.ref h0, .int p1] (fun U => U.heap.size = sz ∧ va_P (dC, dI) vwCl [(h0, .inr (13, oX10 v_there v_count v_captures v_ranges (.ref h2) (.ref h3) (.ref h1) (.ref h4) (.ref h5) (.ref h6) (.ref h7) (.ref h8) (.ref h9) (.ref h10) (.ref h11) (.ref h12) (.ref h13) (.ref h14) (.ref h15) (.ref h16))), (h1, .inl (k0, 256, .inl v_end))] U.heap ∧ va_K (dC, dI) vwCl [(k0, .int)] U ∧ va_D (fun _ => True) [(h0, .inr (13, oX10 v_there v_count v_captures v_ranges (.ref h2) (.ref h3) (.ref h1) (.ref h4) (.ref h5) (.ref h6) (.ref h7) (.ref h8) (.ref h9) (.ref h10) (.ref h11) (.ref h12) (.ref h13) (.ref h14) (.ref h15) (.ref h16))), (h1, .inl (k0, 256, .inl v_end))])) (va_Qi (fun (r u : Int32) => r = u) (fun (u : Int32) (t : State) => (Q u) ∧ va_P (dC, dI) vwCl [(h0, .inr (13, oX10 v_there v_count v_captures v_ranges (.ref h2) (.ref h3) (.ref h1) (.ref h4) (.ref h5) (.ref h6) (.ref h7) (.ref h8) (.ref h9) (.ref h10) (.ref h11) (.ref h12) (.ref h13) (.ref h14) (.ref h15) (.ref h16))), (h1, .inl (k0, 256, .inl v_end))] t.heap ∧ va_D (va_A [(h0, .inr (13, oX10 v_there v_count v_captures v_ranges (.ref h2) (.ref h3) (.ref h1) (.ref h4) (.ref h5) (.ref h6) (.ref h7) (.ref h8) (.ref h9) (.ref h10) (.ref h11) (.ref h12) (.ref h13) (.ref h14) (.ref h15) (.ref h16))), (h1, .inl (k0, 256, .inl v_end))] sz) [(h0, .inr (13, oX10 v_there v_count v_captures v_ranges (.ref h2) (.ref h3) (.ref h1) (.ref h4) (.ref h5) (.ref h6) (.ref h7) (.ref h8) (.ref h9) (.ref h10) (.ref h11) (.ref h12) (.ref h13) (.ref h14) (.ref h15) (.ref h16))), (h1, .inl (k0, 256, .inl v_end))]) (va_A [(h0, .inr (13, oX10 v_there v_count v_captures v_ranges (.ref h2) (.ref h3) (.ref h1) (.ref h4) (.ref h5) (.ref h6) (.ref h7) (.ref h8) (.ref h9) (.ref h10) (.ref h11) (.ref h12) (.ref h13) (.ref h14) (.ref h15) (.ref h16))), (h1, .inl (k0, 256, .inl v_end))] sz)) 0 0 (va_A [(h0, .inr (13, oX10 v_there v_count v_captures v_ranges (.ref h2) (.ref h3) (.ref h1) (.ref h4) (.ref h5) (.ref h6) (.ref h7) (.ref h8) (.ref h9) (.ref h10) (.ref h11) (.ref h12) (.ref h13) (.ref h14) (.ref h15) (.ref h16))), (h1, .inl (k0, 256, .inl v_end))] sz) := by
  refine Met.ofW (cc := cX10_endOf) (maxL := 2) (ret := (some (.int))) (by decide) rfl ?_
  intro p e s m args below meth c s₁ B hml hv
  obtain ⟨rfl, hsz, hP, hK, hD0⟩ := hv
  have hx := B.exec
  have hb := B.bytes
  have hr := B.returns
  have hts := atoms_spec (ws := WS yX10_endOf cX10_endOf 2 (some (.int))) B.pre
  have ht : ∀ w ∈ TW, w.before _ s = true := fun w h => hts w (List.mem_cons_of_mem _ h)
  have hown : s.vm.findClass "PatternWorkshop$Tree" = some m.cls := findClass_of_methodNamed B.named
  have hlocks := B.notSynchronized
  subst hsz
  have hD := hD0.self (sz := s.heap.size)
  generalize hAe : va_A [(h0, .inr (13, oX10 v_there v_count v_captures v_ranges (.ref h2) (.ref h3) (.ref h1) (.ref h4) (.ref h5) (.ref h6) (.ref h7) (.ref h8) (.ref h9) (.ref h10) (.ref h11) (.ref h12) (.ref h13) (.ref h14) (.ref h15) (.ref h16))), (h1, .inl (k0, 256, .inl v_end))] s.heap.size = A at hD ⊢
  have hA : ∀ q : Nat, s.heap.size ≤ q → A q := fun q h => by rw [← hAe]; exact Or.inr h
  have hS : va_S A s.heap s.heap [] := va_S.rf
  have hP : va_P (dC, dI) vwCl [(h0, .inr (13, oX10 v_there v_count v_captures v_ranges (.ref h2) (.ref h3) (.ref h1) (.ref h4) (.ref h5) (.ref h6) (.ref h7) (.ref h8) (.ref h9) (.ref h10) (.ref h11) (.ref h12) (.ref h13) (.ref h14) (.ref h15) (.ref h16))), (h1, .inl (k0, 256, .inl v_end))] s.heap := hP
  have hl := lv_entry ([.ref h0, .int p1]) (n := 2) (Nat.le_of_ble_eq_true rfl)
  rw [lg_entry_eq]
  generalize (lg_sl ([.ref h0, .int p1]) ++ List.replicate (2 - (lg_sl ([.ref h0, .int p1])).length) Slot.unset).toArray = ls at hl ⊢
  have hl : lv_has ls 2 [(0, .ref h0), (1, .int p1)] := hl
  clear hD0
  obtain ⟨QQ, hQQ⟩ : ∃ QQ, QQ = MQ below (va_Qi (fun (r u : Int32) => r = u) (fun (u : Int32) (t : State) => (Q u) ∧ va_P (dC, dI) vwCl [(h0, .inr (13, oX10 v_there v_count v_captures v_ranges (.ref h2) (.ref h3) (.ref h1) (.ref h4) (.ref h5) (.ref h6) (.ref h7) (.ref h8) (.ref h9) (.ref h10) (.ref h11) (.ref h12) (.ref h13) (.ref h14) (.ref h15) (.ref h16))), (h1, .inl (k0, 256, .inl v_end))] t.heap ∧ va_D A [(h0, .inr (13, oX10 v_there v_count v_captures v_ranges (.ref h2) (.ref h3) (.ref h1) (.ref h4) (.ref h5) (.ref h6) (.ref h7) (.ref h8) (.ref h9) (.ref h10) (.ref h11) (.ref h12) (.ref h13) (.ref h14) (.ref h15) (.ref h16))), (h1, .inl (k0, 256, .inl v_end))]) A) ([.ref h0, .int p1]).toArray s 0 0 A := ⟨_, rfl⟩
  show W p l e ({ frames := 0, cells := 0, slots := 0, locals := 0 } : Room) s m ([.ref h0, .int p1]).toArray below meth c s.heap [] 0 0 (MQ below (va_Qi (fun (r u : Int32) => r = u) (fun (u : Int32) (t : State) => (Q u) ∧ va_P (dC, dI) vwCl [(h0, .inr (13, oX10 v_there v_count v_captures v_ranges (.ref h2) (.ref h3) (.ref h1) (.ref h4) (.ref h5) (.ref h6) (.ref h7) (.ref h8) (.ref h9) (.ref h10) (.ref h11) (.ref h12) (.ref h13) (.ref h14) (.ref h15) (.ref h16))), (h1, .inl (k0, 256, .inl v_end))] t.heap ∧ va_D A [(h0, .inr (13, oX10 v_there v_count v_captures v_ranges (.ref h2) (.ref h3) (.ref h1) (.ref h4) (.ref h5) (.ref h6) (.ref h7) (.ref h8) (.ref h9) (.ref h10) (.ref h11) (.ref h12) (.ref h13) (.ref h14) (.ref h15) (.ref h16))), (h1, .inl (k0, 256, .inl v_end))]) A) ([.ref h0, .int p1]).toArray s 0 0 A) (F0 m 0 ls [])
  rw [← hQQ]
  unfold w_X10_endOf at w
  refine lv_iload_n hx hb dX10_endOf_0 rfl (lv_at hl 1 rfl) ?_
  have k_25 : ∀ (s0_25 : Int32), ∀ (H_b25 : Heap) (locs_b25 : List Loc) (ls_b25 : Array Slot), w_X10_endOf_25 Q s0_25 → va_P (dC, dI) vwCl [(h0, .inr (13, oX10 v_there v_count v_captures v_ranges (.ref h2) (.ref h3) (.ref h1) (.ref h4) (.ref h5) (.ref h6) (.ref h7) (.ref h8) (.ref h9) (.ref h10) (.ref h11) (.ref h12) (.ref h13) (.ref h14) (.ref h15) (.ref h16))), (h1, .inl (k0, 256, .inl v_end))] H_b25 → va_D A [(h0, .inr (13, oX10 v_there v_count v_captures v_ranges (.ref h2) (.ref h3) (.ref h1) (.ref h4) (.ref h5) (.ref h6) (.ref h7) (.ref h8) (.ref h9) (.ref h10) (.ref h11) (.ref h12) (.ref h13) (.ref h14) (.ref h15) (.ref h16))), (h1, .inl (k0, 256, .inl v_end))] → va_S A s.heap H_b25 locs_b25 → lv_has ls_b25 2 [] → W p l e ({ frames := 0, cells := 0, slots := 0, locals := 0 } : Room) s m ([.ref h0, .int p1]).toArray below meth c H_b25 locs_b25 0 0 QQ (F0 m 25 ls_b25 [.int s0_25]) := by
    intro s0_25 H_b25 locs_b25 ls_b25 w_b25 hP_b25 hD_b25 hS_b25 hl_b25
    unfold w_X10_endOf_25 at w_b25
    rw [hQQ]
    exact W.iret (v := s0_25) hx hb hr (fun t9 ht9 hW9 => ⟨⟨s0_25, s0_25, rfl, rfl, ⟨w_b25, by rw [ht9]; exact hP_b25, hD_b25⟩⟩, hS_b25.F ht9⟩) hS_b25.2.2 dX10_endOf_25
  have k_21 : ∀ (H_b21 : Heap) (locs_b21 : List Loc) (ls_b21 : Array Slot), w_X10_endOf_21 v_count Q → va_P (dC, dI) vwCl [(h0, .inr (13, oX10 v_there v_count v_captures v_ranges (.ref h2) (.ref h3) (.ref h1) (.ref h4) (.ref h5) (.ref h6) (.ref h7) (.ref h8) (.ref h9) (.ref h10) (.ref h11) (.ref h12) (.ref h13) (.ref h14) (.ref h15) (.ref h16))), (h1, .inl (k0, 256, .inl v_end))] H_b21 → va_D A [(h0, .inr (13, oX10 v_there v_count v_captures v_ranges (.ref h2) (.ref h3) (.ref h1) (.ref h4) (.ref h5) (.ref h6) (.ref h7) (.ref h8) (.ref h9) (.ref h10) (.ref h11) (.ref h12) (.ref h13) (.ref h14) (.ref h15) (.ref h16))), (h1, .inl (k0, 256, .inl v_end))] → va_S A s.heap H_b21 locs_b21 → lv_has ls_b21 2 [(0, .ref h0)] → W p l e ({ frames := 0, cells := 0, slots := 0, locals := 0 } : Room) s m ([.ref h0, .int p1]).toArray below meth c H_b21 locs_b21 0 0 QQ (F0 m 21 ls_b21 []) := by
    intro  H_b21 locs_b21 ls_b21 w_b21 hP_b21 hD_b21 hS_b21 hl_b21
    unfold w_X10_endOf_21 at w_b21
    refine lv_aload_n hx hb dX10_endOf_21 rfl (lv_at hl_b21 0 rfl) ?_
    refine va_get (D := (dC, dI)) (ci := 13) (v := .int v_count) (C := RX10) (T := TX10) (N := 20) hx hb ht inX10 hown hK hP_b21 0 rfl rfl 1 (by decide) (ht _ tw_319) (fun _ h9 => h9) rfl dX10_endOf_22 ?_
    exact k_25 v_count _ _ _ w_b21 hP_b21 hD_b21 hS_b21 (lv_sub hl_b21 [] rfl)
  refine lv_if_lt (tgt := 21) hx hb dX10_endOf_1 (by decide) (fun c_1 => ?_) (fun c_1 => ?_)
  · exact k_21  _ _ _ (w.1 c_1) hP hD hS (lv_sub hl [0] rfl)
  · refine lv_iload_n hx hb dX10_endOf_4 rfl (lv_at hl 1 rfl) ?_
    refine lv_aload_n hx hb dX10_endOf_5 rfl (lv_at hl 0 rfl) ?_
    refine va_get (D := (dC, dI)) (ci := 13) (v := .int v_count) (C := RX10) (T := TX10) (N := 20) hx hb ht inX10 hown hK hP 0 rfl rfl 1 (by decide) (ht _ tw_319) (fun _ h9 => h9) rfl dX10_endOf_6 ?_
    refine lv_icmp_ge (tgt := 21) hx hb dX10_endOf_9 (by decide) (fun c_2 => ?_) (fun c_2 => ?_)
    · exact k_21  _ _ _ ((w.2 c_1).1 c_2) hP hD hS (lv_sub hl [0] rfl)
    · refine lv_aload_n hx hb dX10_endOf_12 rfl (lv_at hl 0 rfl) ?_
      refine va_get (D := (dC, dI)) (ci := 13) (v := .ref h1) (C := RX10) (T := TX10) (N := 20) hx hb ht inX10 hown hK hP 0 rfl rfl 6 (by decide) (ht _ tw_329) (fun _ h9 => h9) rfl dX10_endOf_13 ?_
      refine lv_iload_n hx hb dX10_endOf_16 rfl (lv_at hl 1 rfl) ?_
      refine va_iald hx hb hK hP 1 0 rfl rfl (i := p1) ((w.2 c_1).2 c_2).1 dX10_endOf_17 ?_
      refine lv_topi (fun x_3 ex_3 => ?_)
      have ex_3 : x_3 = v_end p1.toNatClampNeg := ex_3
      refine lv_goto (tgt := 25) hx hb dX10_endOf_18 (by decide) ?_
      exact k_25 x_3 _ _ _ ((((w.2 c_1).2 c_2).2) x_3 ex_3) hP hD hS (lv_sub hl [] rfl)
def w_X10_isEndless_24 (Q : Int32 → Prop) (s0_24 : Int32) : Prop :=
  (s0_24 = 0 ∨ s0_24 = 1) ∧ Q s0_24
def w_X10_isEndless_23 (Q : Int32 → Prop) : Prop :=
  w_X10_isEndless_24 Q 0
def w_X10_isEndless (p1 : Int32) (v_count : Int32) (v_sort : Nat → Int32) (v_high : Nat → Int32) (Q : Int32 → Prop) : Prop :=
  w_X10_sortOf p1 v_count v_sort (fun r_1 => ((¬ r_1 = 7) → w_X10_isEndless_23 Q) ∧ ((r_1 = 7) → w_X10_highOf p1 v_count v_high (fun r_3 => ((¬ r_3 = (-1)) → w_X10_isEndless_23 Q) ∧ ((r_3 = (-1)) → w_X10_isEndless_24 Q 1))))
set_option maxHeartbeats 4000000 in
set_option maxRecDepth 100000 in
theorem mt_X10_isEndless (l : Launch) (dC : Nat → ClassId) (dI : Nat → Nat → Nat) (h0 h1 h2 h3 h4 h5 h6 h7 h8 h9 h10 h11 h12 h13 h14 h15 h16 : Nat) (k0 k1 : ClassId) (p1 : Int32) (v_there : Bool) (v_count : Int32) (v_captures : Int32) (v_ranges : Int32) (v_sort : Nat → Int32) (v_high : Nat → Int32) (Q : Int32 → Prop) (w : w_X10_isEndless p1 v_count v_sort v_high Q) (sz : Nat) : Met l yX10_isEndless (WS yX10_isEndless cX10_isEndless 2 (some (.boolean))) ({ frames := 1, cells := 0, slots := 0, locals := 21 } : Room) (va_Pc [.ref h0, .int p1] (fun U => U.heap.size = sz ∧ va_P (dC, dI) vwCl [(h0, .inr (13, oX10 v_there v_count v_captures v_ranges (.ref h1) (.ref h3) (.ref h4) (.ref h5) (.ref h6) (.ref h7) (.ref h8) (.ref h9) (.ref h2) (.ref h10) (.ref h11) (.ref h12) (.ref h13) (.ref h14) (.ref h15) (.ref h16))), (h1, .inl (k0, 256, .inl v_sort)), (h2, .inl (k1, 256, .inl v_high))] U.heap ∧ va_K (dC, dI) vwCl [(k0, .int), (k1, .int)] U ∧ va_D (fun _ => True) [(h0, .inr (13, oX10 v_there v_count v_captures v_ranges (.ref h1) (.ref h3) (.ref h4) (.ref h5) (.ref h6) (.ref h7) (.ref h8) (.ref h9) (.ref h2) (.ref h10) (.ref h11) (.ref h12) (.ref h13) (.ref h14) (.ref h15) (.ref h16))), (h1, .inl (k0, 256, .inl v_sort)), (h2, .inl (k1, 256, .inl v_high))])) (va_Qi (fun (r u : Int32) => r = u) (fun (u : Int32) (t : State) => (Q u) ∧ va_P (dC, dI) vwCl [(h0, .inr (13, oX10 v_there v_count v_captures v_ranges (.ref h1) (.ref h3) (.ref h4) (.ref h5) (.ref h6) (.ref h7) (.ref h8) (.ref h9) (.ref h2) (.ref h10) (.ref h11) (.ref h12) (.ref h13) (.ref h14) (.ref h15) (.ref h16))), (h1, .inl (k0, 256, .inl v_sort)), (h2, .inl (k1, 256, .inl v_high))] t.heap ∧ va_D (va_A [(h0, .inr (13, oX10 v_there v_count v_captures v_ranges (.ref h1) (.ref h3) (.ref h4) (.ref h5) (.ref h6) (.ref h7) (.ref h8) (.ref h9) (.ref h2) (.ref h10) (.ref h11) (.ref h12) (.ref h13) (.ref h14) (.ref h15) (.ref h16))), (h1, .inl (k0, 256, .inl v_sort)), (h2, .inl (k1, 256, .inl v_high))] sz) [(h0, .inr (13, oX10 v_there v_count v_captures v_ranges (.ref h1) (.ref h3) (.ref h4) (.ref h5) (.ref h6) (.ref h7) (.ref h8) (.ref h9) (.ref h2) (.ref h10) (.ref h11) (.ref h12) (.ref h13) (.ref h14) (.ref h15) (.ref h16))), (h1, .inl (k0, 256, .inl v_sort)), (h2, .inl (k1, 256, .inl v_high))]) (va_A [(h0, .inr (13, oX10 v_there v_count v_captures v_ranges (.ref h1) (.ref h3) (.ref h4) (.ref h5) (.ref h6) (.ref h7) (.ref h8) (.ref h9) (.ref h2) (.ref h10) (.ref h11) (.ref h12) (.ref h13) (.ref h14) (.ref h15) (.ref h16))), (h1, .inl (k0, 256, .inl v_sort)), (h2, .inl (k1, 256, .inl v_high))] sz)) 0 0 (va_A [(h0, .inr (13, oX10 v_there v_count v_captures v_ranges (.ref h1) (.ref h3) (.ref h4) (.ref h5) (.ref h6) (.ref h7) (.ref h8) (.ref h9) (.ref h2) (.ref h10) (.ref h11) (.ref h12) (.ref h13) (.ref h14) (.ref h15) (.ref h16))), (h1, .inl (k0, 256, .inl v_sort)), (h2, .inl (k1, 256, .inl v_high))] sz) := by
  refine Met.ofW (cc := cX10_isEndless) (maxL := 2) (ret := (some (.boolean))) (by decide) rfl ?_
  intro p e s m args below meth c s₁ B hml hv
  obtain ⟨rfl, hsz, hP, hK, hD0⟩ := hv
  have hx := B.exec
  have hb := B.bytes
  have hr := B.returns
  have hts := atoms_spec (ws := WS yX10_isEndless cX10_isEndless 2 (some (.boolean))) B.pre
  have ht : ∀ w ∈ TW, w.before _ s = true := fun w h => hts w (List.mem_cons_of_mem _ h)
  have hown : s.vm.findClass "PatternWorkshop$Tree" = some m.cls := findClass_of_methodNamed B.named
  have hlocks := B.notSynchronized
  subst hsz
  have hD := hD0.self (sz := s.heap.size)
  generalize hAe : va_A [(h0, .inr (13, oX10 v_there v_count v_captures v_ranges (.ref h1) (.ref h3) (.ref h4) (.ref h5) (.ref h6) (.ref h7) (.ref h8) (.ref h9) (.ref h2) (.ref h10) (.ref h11) (.ref h12) (.ref h13) (.ref h14) (.ref h15) (.ref h16))), (h1, .inl (k0, 256, .inl v_sort)), (h2, .inl (k1, 256, .inl v_high))] s.heap.size = A at hD ⊢
  have hA : ∀ q : Nat, s.heap.size ≤ q → A q := fun q h => by rw [← hAe]; exact Or.inr h
  have hS : va_S A s.heap s.heap [] := va_S.rf
  have hP : va_P (dC, dI) vwCl [(h0, .inr (13, oX10 v_there v_count v_captures v_ranges (.ref h1) (.ref h3) (.ref h4) (.ref h5) (.ref h6) (.ref h7) (.ref h8) (.ref h9) (.ref h2) (.ref h10) (.ref h11) (.ref h12) (.ref h13) (.ref h14) (.ref h15) (.ref h16))), (h1, .inl (k0, 256, .inl v_sort)), (h2, .inl (k1, 256, .inl v_high))] s.heap := hP
  have hl := lv_entry ([.ref h0, .int p1]) (n := 2) (Nat.le_of_ble_eq_true rfl)
  rw [lg_entry_eq]
  generalize (lg_sl ([.ref h0, .int p1]) ++ List.replicate (2 - (lg_sl ([.ref h0, .int p1])).length) Slot.unset).toArray = ls at hl ⊢
  have hl : lv_has ls 2 [(0, .ref h0), (1, .int p1)] := hl
  clear hD0
  obtain ⟨QQ, hQQ⟩ : ∃ QQ, QQ = MQ below (va_Qi (fun (r u : Int32) => r = u) (fun (u : Int32) (t : State) => (Q u) ∧ va_P (dC, dI) vwCl [(h0, .inr (13, oX10 v_there v_count v_captures v_ranges (.ref h1) (.ref h3) (.ref h4) (.ref h5) (.ref h6) (.ref h7) (.ref h8) (.ref h9) (.ref h2) (.ref h10) (.ref h11) (.ref h12) (.ref h13) (.ref h14) (.ref h15) (.ref h16))), (h1, .inl (k0, 256, .inl v_sort)), (h2, .inl (k1, 256, .inl v_high))] t.heap ∧ va_D A [(h0, .inr (13, oX10 v_there v_count v_captures v_ranges (.ref h1) (.ref h3) (.ref h4) (.ref h5) (.ref h6) (.ref h7) (.ref h8) (.ref h9) (.ref h2) (.ref h10) (.ref h11) (.ref h12) (.ref h13) (.ref h14) (.ref h15) (.ref h16))), (h1, .inl (k0, 256, .inl v_sort)), (h2, .inl (k1, 256, .inl v_high))]) A) ([.ref h0, .int p1]).toArray s 0 0 A := ⟨_, rfl⟩
  show W p l e ({ frames := 1, cells := 0, slots := 0, locals := 21 } : Room) s m ([.ref h0, .int p1]).toArray below meth c s.heap [] 0 0 (MQ below (va_Qi (fun (r u : Int32) => r = u) (fun (u : Int32) (t : State) => (Q u) ∧ va_P (dC, dI) vwCl [(h0, .inr (13, oX10 v_there v_count v_captures v_ranges (.ref h1) (.ref h3) (.ref h4) (.ref h5) (.ref h6) (.ref h7) (.ref h8) (.ref h9) (.ref h2) (.ref h10) (.ref h11) (.ref h12) (.ref h13) (.ref h14) (.ref h15) (.ref h16))), (h1, .inl (k0, 256, .inl v_sort)), (h2, .inl (k1, 256, .inl v_high))] t.heap ∧ va_D A [(h0, .inr (13, oX10 v_there v_count v_captures v_ranges (.ref h1) (.ref h3) (.ref h4) (.ref h5) (.ref h6) (.ref h7) (.ref h8) (.ref h9) (.ref h2) (.ref h10) (.ref h11) (.ref h12) (.ref h13) (.ref h14) (.ref h15) (.ref h16))), (h1, .inl (k0, 256, .inl v_sort)), (h2, .inl (k1, 256, .inl v_high))]) A) ([.ref h0, .int p1]).toArray s 0 0 A) (F0 m 0 ls [])
  rw [← hQQ]
  unfold w_X10_isEndless at w
  refine lv_aload_n hx hb dX10_isEndless_0 rfl (lv_at hl 0 rfl) ?_
  refine lv_iload_n hx hb dX10_isEndless_1 rfl (lv_at hl 1 rfl) ?_
  have hPc_1 := hP.sub (ws' := [(h0, .inr (13, oX10 v_there v_count v_captures v_ranges (.ref h1) (.ref h3) (.ref h4) (.ref h5) (.ref h6) (.ref h7) (.ref h8) (.ref h9) (.ref h2) (.ref h10) (.ref h11) (.ref h12) (.ref h13) (.ref h14) (.ref h15) (.ref h16))), (h1, .inl (k0, 256, .inl v_sort))]) [0, 1] rfl
  have hDc_1 := hD.sub (ws' := [(h0, .inr (13, oX10 v_there v_count v_captures v_ranges (.ref h1) (.ref h3) (.ref h4) (.ref h5) (.ref h6) (.ref h7) (.ref h8) (.ref h9) (.ref h2) (.ref h10) (.ref h11) (.ref h12) (.ref h13) (.ref h14) (.ref h15) (.ref h16))), (h1, .inl (k0, 256, .inl v_sort))]) [0, 1] (by decide) rfl
  have hKc_1 := hK.sub (tys' := [(k0, .int)]) [0] rfl
  have hFc_1 := va_free (wc := [(h0, .inr (13, oX10 v_there v_count v_captures v_ranges (.ref h1) (.ref h3) (.ref h4) (.ref h5) (.ref h6) (.ref h7) (.ref h8) (.ref h9) (.ref h2) (.ref h10) (.ref h11) (.ref h12) (.ref h13) (.ref h14) (.ref h15) (.ref h16))), (h1, .inl (k0, 256, .inl v_sort))]) hD hS hA [0, 1] rfl
  refine va_calli (va_runV (As := [.int p1]) (rest := []) ⟨hx, hb, hml, hown, ht⟩ (mt_X10_sortOf l dC dI h0 h1 h3 h4 h5 h6 h7 h8 h9 h2 h10 h11 h12 h13 h14 h15 h16 k0 p1 v_there v_count v_captures v_ranges v_sort _ w s.heap.size) (cwV 1 ht (goodV tw_1101 tw_1102 tw_1103 tw_240 gw_X10_sortOf) rfl rfl rfl (by decide +kernel) ⟨Nat.le_of_ble_eq_true rfl, Nat.le_of_ble_eq_true rfl⟩) ⟨fun a U g mk q => by obtain ⟨q0, q1, qP, qK, qD⟩ := q; exact ⟨q0, q1, qP, va_K.moved (u := U) (U := U.calling g mk a) (Vm.Alike.refl U.vm) qK, qD⟩, va_recv hKc_1 hPc_1 (ci := 13) (q0 := 0) rfl rfl, fun U hU hW => ⟨rfl, by rw [hU], by rw [hU]; exact hPc_1, va_K.moved hW.alike hKc_1, hDc_1.weaken (fun _ _ _ _ => trivial)⟩⟩ rfl rfl hl.1 rfl (lv_room (Nat.le_of_ble_eq_true rfl)) dX10_isEndless_2 ⟨Nat.le_of_ble_eq_true rfl, Nat.le_of_ble_eq_true rfl⟩) hS (fun q _ h => hFc_1 q h) hFc_1 (fun r_1 u_1 t_1 H_1 locs_1 ht_1 hvm_1 hw_1 hB_1 hz_1 hk_1 hS_1 => ?_)
  subst hw_1
  obtain ⟨w_1, hP1_1, hD1_1⟩ := hB_1
  rw [ht_1] at hP1_1
  obtain ⟨hP_1, hD_1⟩ := va_join (wr := [(h2, .inl (k1, 256, .inl v_high))]) (w1 := [(h0, .inr (13, oX10 v_there v_count v_captures v_ranges (.ref h1) (.ref h3) (.ref h4) (.ref h5) (.ref h6) (.ref h7) (.ref h8) (.ref h9) (.ref h2) (.ref h10) (.ref h11) (.ref h12) (.ref h13) (.ref h14) (.ref h15) (.ref h16))), (h1, .inl (k0, 256, .inl v_sort))]) hP hD [0, 1] [2] rfl rfl (by decide) (by decide) hk_1 hFc_1 hP1_1 hD1_1
  have hP_1 := hP_1.sub (ws' := [(h0, .inr (13, oX10 v_there v_count v_captures v_ranges (.ref h1) (.ref h3) (.ref h4) (.ref h5) (.ref h6) (.ref h7) (.ref h8) (.ref h9) (.ref h2) (.ref h10) (.ref h11) (.ref h12) (.ref h13) (.ref h14) (.ref h15) (.ref h16))), (h1, .inl (k0, 256, .inl v_sort)), (h2, .inl (k1, 256, .inl v_high))]) [1, 2, 0] rfl
  have hD_1 := hD_1.sub (ws' := [(h0, .inr (13, oX10 v_there v_count v_captures v_ranges (.ref h1) (.ref h3) (.ref h4) (.ref h5) (.ref h6) (.ref h7) (.ref h8) (.ref h9) (.ref h2) (.ref h10) (.ref h11) (.ref h12) (.ref h13) (.ref h14) (.ref h15) (.ref h16))), (h1, .inl (k0, 256, .inl v_sort)), (h2, .inl (k1, 256, .inl v_high))]) [1, 2, 0] (by decide) rfl
  clear hPc_1 hDc_1 hKc_1 hFc_1 hP1_1 hD1_1 hk_1 hz_1
  refine lv_bipush (v := 7) hx hb dX10_isEndless_5 (by decide) ?_
  have k_24 : ∀ (s0_24 : Int32), ∀ (H_b24 : Heap) (locs_b24 : List Loc) (ls_b24 : Array Slot), w_X10_isEndless_24 Q s0_24 → va_P (dC, dI) vwCl [(h0, .inr (13, oX10 v_there v_count v_captures v_ranges (.ref h1) (.ref h3) (.ref h4) (.ref h5) (.ref h6) (.ref h7) (.ref h8) (.ref h9) (.ref h2) (.ref h10) (.ref h11) (.ref h12) (.ref h13) (.ref h14) (.ref h15) (.ref h16))), (h1, .inl (k0, 256, .inl v_sort)), (h2, .inl (k1, 256, .inl v_high))] H_b24 → va_D A [(h0, .inr (13, oX10 v_there v_count v_captures v_ranges (.ref h1) (.ref h3) (.ref h4) (.ref h5) (.ref h6) (.ref h7) (.ref h8) (.ref h9) (.ref h2) (.ref h10) (.ref h11) (.ref h12) (.ref h13) (.ref h14) (.ref h15) (.ref h16))), (h1, .inl (k0, 256, .inl v_sort)), (h2, .inl (k1, 256, .inl v_high))] → va_S A s.heap H_b24 locs_b24 → lv_has ls_b24 2 [] → W p l e ({ frames := 1, cells := 0, slots := 0, locals := 21 } : Room) s m ([.ref h0, .int p1]).toArray below meth c H_b24 locs_b24 0 0 QQ (F0 m 24 ls_b24 [.int s0_24]) := by
    intro s0_24 H_b24 locs_b24 ls_b24 w_b24 hP_b24 hD_b24 hS_b24 hl_b24
    unfold w_X10_isEndless_24 at w_b24
    rw [hQQ]
    exact W.zret (v := s0_24) hx hb hr (or_nar w_b24.1) (fun t9 ht9 hW9 => ⟨⟨s0_24, s0_24, rfl, rfl, ⟨w_b24.2, by rw [ht9]; exact hP_b24, hD_b24⟩⟩, hS_b24.F ht9⟩) hS_b24.2.2 dX10_isEndless_24
  have k_23 : ∀ (H_b23 : Heap) (locs_b23 : List Loc) (ls_b23 : Array Slot), w_X10_isEndless_23 Q → va_P (dC, dI) vwCl [(h0, .inr (13, oX10 v_there v_count v_captures v_ranges (.ref h1) (.ref h3) (.ref h4) (.ref h5) (.ref h6) (.ref h7) (.ref h8) (.ref h9) (.ref h2) (.ref h10) (.ref h11) (.ref h12) (.ref h13) (.ref h14) (.ref h15) (.ref h16))), (h1, .inl (k0, 256, .inl v_sort)), (h2, .inl (k1, 256, .inl v_high))] H_b23 → va_D A [(h0, .inr (13, oX10 v_there v_count v_captures v_ranges (.ref h1) (.ref h3) (.ref h4) (.ref h5) (.ref h6) (.ref h7) (.ref h8) (.ref h9) (.ref h2) (.ref h10) (.ref h11) (.ref h12) (.ref h13) (.ref h14) (.ref h15) (.ref h16))), (h1, .inl (k0, 256, .inl v_sort)), (h2, .inl (k1, 256, .inl v_high))] → va_S A s.heap H_b23 locs_b23 → lv_has ls_b23 2 [] → W p l e ({ frames := 1, cells := 0, slots := 0, locals := 21 } : Room) s m ([.ref h0, .int p1]).toArray below meth c H_b23 locs_b23 0 0 QQ (F0 m 23 ls_b23 []) := by
    intro  H_b23 locs_b23 ls_b23 w_b23 hP_b23 hD_b23 hS_b23 hl_b23
    unfold w_X10_isEndless_23 at w_b23
    refine lv_iconst (v := 0) hx hb dX10_isEndless_23 (by decide) ?_
    exact k_24 0 _ _ _ w_b23 hP_b23 hD_b23 hS_b23 (lv_sub hl_b23 [] rfl)
  refine lv_icmp_ne (tgt := 23) hx hb dX10_isEndless_7 (by decide) (fun c_2 => ?_) (fun c_2 => ?_)
  · exact k_23  _ _ _ (w_1.1 c_2) hP_1 hD_1 hS_1 (lv_sub hl [] rfl)
  · refine lv_aload_n hx hb dX10_isEndless_10 rfl (lv_at hl 0 rfl) ?_
    refine lv_iload_n hx hb dX10_isEndless_11 rfl (lv_at hl 1 rfl) ?_
    have hPc_3 := hP_1.sub (ws' := [(h0, .inr (13, oX10 v_there v_count v_captures v_ranges (.ref h1) (.ref h3) (.ref h4) (.ref h5) (.ref h6) (.ref h7) (.ref h8) (.ref h9) (.ref h2) (.ref h10) (.ref h11) (.ref h12) (.ref h13) (.ref h14) (.ref h15) (.ref h16))), (h2, .inl (k1, 256, .inl v_high))]) [0, 2] rfl
    have hDc_3 := hD_1.sub (ws' := [(h0, .inr (13, oX10 v_there v_count v_captures v_ranges (.ref h1) (.ref h3) (.ref h4) (.ref h5) (.ref h6) (.ref h7) (.ref h8) (.ref h9) (.ref h2) (.ref h10) (.ref h11) (.ref h12) (.ref h13) (.ref h14) (.ref h15) (.ref h16))), (h2, .inl (k1, 256, .inl v_high))]) [0, 2] (by decide) rfl
    have hKc_3 := hK.sub (tys' := [(k1, .int)]) [1] rfl
    have hFc_3 := va_free (wc := [(h0, .inr (13, oX10 v_there v_count v_captures v_ranges (.ref h1) (.ref h3) (.ref h4) (.ref h5) (.ref h6) (.ref h7) (.ref h8) (.ref h9) (.ref h2) (.ref h10) (.ref h11) (.ref h12) (.ref h13) (.ref h14) (.ref h15) (.ref h16))), (h2, .inl (k1, 256, .inl v_high))]) hD_1 hS_1 hA [0, 2] rfl
    refine va_calli (va_runV (As := [.int p1]) (rest := []) ⟨hx, hb, hml, hown, ht⟩ (mt_X10_highOf l dC dI h0 h2 h1 h3 h4 h5 h6 h7 h8 h9 h10 h11 h12 h13 h14 h15 h16 k1 p1 v_there v_count v_captures v_ranges v_high _ (w_1.2 c_2) H_1.size) (cwV 1 ht (goodV tw_1105 tw_1106 tw_1107 tw_240 gw_X10_highOf) rfl rfl rfl (by decide +kernel) ⟨Nat.le_of_ble_eq_true rfl, Nat.le_of_ble_eq_true rfl⟩) ⟨fun a U g mk q => by obtain ⟨q0, q1, qP, qK, qD⟩ := q; exact ⟨q0, q1, qP, va_K.moved (u := U) (U := U.calling g mk a) (Vm.Alike.refl U.vm) qK, qD⟩, va_recv hKc_3 hPc_3 (ci := 13) (q0 := 0) rfl rfl, fun U hU hW => ⟨rfl, by rw [hU], by rw [hU]; exact hPc_3, va_K.moved hW.alike hKc_3, hDc_3.weaken (fun _ _ _ _ => trivial)⟩⟩ rfl rfl hl.1 rfl (lv_room (Nat.le_of_ble_eq_true rfl)) dX10_isEndless_12 ⟨Nat.le_of_ble_eq_true rfl, Nat.le_of_ble_eq_true rfl⟩) hS_1 (fun q _ h => hFc_3 q h) hFc_3 (fun r_3 u_3 t_3 H_3 locs_3 ht_3 hvm_3 hw_3 hB_3 hz_3 hk_3 hS_3 => ?_)
    subst hw_3
    obtain ⟨w_3, hP1_3, hD1_3⟩ := hB_3
    rw [ht_3] at hP1_3
    obtain ⟨hP_3, hD_3⟩ := va_join (wr := [(h1, .inl (k0, 256, .inl v_sort))]) (w1 := [(h0, .inr (13, oX10 v_there v_count v_captures v_ranges (.ref h1) (.ref h3) (.ref h4) (.ref h5) (.ref h6) (.ref h7) (.ref h8) (.ref h9) (.ref h2) (.ref h10) (.ref h11) (.ref h12) (.ref h13) (.ref h14) (.ref h15) (.ref h16))), (h2, .inl (k1, 256, .inl v_high))]) hP_1 hD_1 [0, 2] [1] rfl rfl (by decide) (by decide) hk_3 hFc_3 hP1_3 hD1_3
    have hP_3 := hP_3.sub (ws' := [(h0, .inr (13, oX10 v_there v_count v_captures v_ranges (.ref h1) (.ref h3) (.ref h4) (.ref h5) (.ref h6) (.ref h7) (.ref h8) (.ref h9) (.ref h2) (.ref h10) (.ref h11) (.ref h12) (.ref h13) (.ref h14) (.ref h15) (.ref h16))), (h1, .inl (k0, 256, .inl v_sort)), (h2, .inl (k1, 256, .inl v_high))]) [1, 0, 2] rfl
    have hD_3 := hD_3.sub (ws' := [(h0, .inr (13, oX10 v_there v_count v_captures v_ranges (.ref h1) (.ref h3) (.ref h4) (.ref h5) (.ref h6) (.ref h7) (.ref h8) (.ref h9) (.ref h2) (.ref h10) (.ref h11) (.ref h12) (.ref h13) (.ref h14) (.ref h15) (.ref h16))), (h1, .inl (k0, 256, .inl v_sort)), (h2, .inl (k1, 256, .inl v_high))]) [1, 0, 2] (by decide) rfl
    clear hPc_3 hDc_3 hKc_3 hFc_3 hP1_3 hD1_3 hk_3 hz_3
    refine lv_iconst (v := (-1)) hx hb dX10_isEndless_15 (by decide) ?_
    refine lv_icmp_ne (tgt := 23) hx hb dX10_isEndless_16 (by decide) (fun c_4 => ?_) (fun c_4 => ?_)
    · exact k_23  _ _ _ (w_3.1 c_4) hP_3 hD_3 hS_3 (lv_sub hl [] rfl)
    · refine lv_iconst (v := 1) hx hb dX10_isEndless_19 (by decide) ?_
      refine lv_goto (tgt := 24) hx hb dX10_isEndless_20 (by decide) ?_
      exact k_24 1 _ _ _ (w_3.2 c_4) hP_3 hD_3 hS_3 (lv_sub hl [] rfl)
def w_X10_isWithinCase_26 (Q : Int32 → Prop) (s0_26 : Int32) : Prop :=
  (s0_26 = 0 ∨ s0_26 = 1) ∧ Q s0_26
def w_X10_isWithinCase_25 (Q : Int32 → Prop) : Prop :=
  w_X10_isWithinCase_26 Q 0
def w_X10_isWithinCase (p1 : Int32) (v_count : Int32) (v_withinCase : Nat → Bool) (Q : Int32 → Prop) : Prop :=
  ((p1 < 0) → w_X10_isWithinCase_25 Q) ∧ ((¬ p1 < 0) → ((v_count ≤ p1) → w_X10_isWithinCase_25 Q) ∧ ((¬ v_count ≤ p1) → vp_in p1 256 ∧ ∀ x_3 : Int32, x_3 = bz (v_withinCase p1.toNatClampNeg) → ((x_3 = 0) → w_X10_isWithinCase_25 Q) ∧ ((¬ x_3 = 0) → w_X10_isWithinCase_26 Q 1)))
set_option maxHeartbeats 4000000 in
set_option maxRecDepth 100000 in
theorem mt_X10_isWithinCase (l : Launch) (dC : Nat → ClassId) (dI : Nat → Nat → Nat) (h0 h1 h2 h3 h4 h5 h6 h7 h8 h9 h10 h11 h12 h13 h14 h15 h16 : Nat) (k0 : ClassId) (p1 : Int32) (v_there : Bool) (v_count : Int32) (v_captures : Int32) (v_ranges : Int32) (v_withinCase : Nat → Bool) (Q : Int32 → Prop) (w : w_X10_isWithinCase p1 v_count v_withinCase Q) (sz : Nat) : Met l yX10_isWithinCase (WS yX10_isWithinCase cX10_isWithinCase 2 (some (.boolean))) ({ frames := 0, cells := 0, slots := 0, locals := 0 } : Room) (va_Pc [.ref h0, .int p1] (fun U => U.heap.size = sz ∧ va_P (dC, dI) vwCl [(h0, .inr (13, oX10 v_there v_count v_captures v_ranges (.ref h2) (.ref h3) (.ref h4) (.ref h5) (.ref h6) (.ref h7) (.ref h8) (.ref h9) (.ref h10) (.ref h11) (.ref h12) (.ref h13) (.ref h1) (.ref h14) (.ref h15) (.ref h16))), (h1, .inl (k0, 256, .inl (fun q9 => bz (v_withinCase q9))))] U.heap ∧ va_K (dC, dI) vwCl [(k0, .boolean)] U ∧ va_D (fun _ => True) [(h0, .inr (13, oX10 v_there v_count v_captures v_ranges (.ref h2) (.ref h3) (.ref h4) (.ref h5) (.ref h6) (.ref h7) (.ref h8) (.ref h9) (.ref h10) (.ref h11) (.ref h12) (.ref h13) (.ref h1) (.ref h14) (.ref h15) (.ref h16))), (h1, .inl (k0, 256, .inl (fun q9 => bz (v_withinCase q9))))])) (va_Qi (fun (r u : Int32) => r = u) (fun (u : Int32) (t : State) => (Q u) ∧ va_P (dC, dI) vwCl [(h0, .inr (13, oX10 v_there v_count v_captures v_ranges (.ref h2) (.ref h3) (.ref h4) (.ref h5) (.ref h6) (.ref h7) (.ref h8) (.ref h9) (.ref h10) (.ref h11) (.ref h12) (.ref h13) (.ref h1) (.ref h14) (.ref h15) (.ref h16))), (h1, .inl (k0, 256, .inl (fun q9 => bz (v_withinCase q9))))] t.heap ∧ va_D (va_A [(h0, .inr (13, oX10 v_there v_count v_captures v_ranges (.ref h2) (.ref h3) (.ref h4) (.ref h5) (.ref h6) (.ref h7) (.ref h8) (.ref h9) (.ref h10) (.ref h11) (.ref h12) (.ref h13) (.ref h1) (.ref h14) (.ref h15) (.ref h16))), (h1, .inl (k0, 256, .inl (fun q9 => bz (v_withinCase q9))))] sz) [(h0, .inr (13, oX10 v_there v_count v_captures v_ranges (.ref h2) (.ref h3) (.ref h4) (.ref h5) (.ref h6) (.ref h7) (.ref h8) (.ref h9) (.ref h10) (.ref h11) (.ref h12) (.ref h13) (.ref h1) (.ref h14) (.ref h15) (.ref h16))), (h1, .inl (k0, 256, .inl (fun q9 => bz (v_withinCase q9))))]) (va_A [(h0, .inr (13, oX10 v_there v_count v_captures v_ranges (.ref h2) (.ref h3) (.ref h4) (.ref h5) (.ref h6) (.ref h7) (.ref h8) (.ref h9) (.ref h10) (.ref h11) (.ref h12) (.ref h13) (.ref h1) (.ref h14) (.ref h15) (.ref h16))), (h1, .inl (k0, 256, .inl (fun q9 => bz (v_withinCase q9))))] sz)) 0 0 (va_A [(h0, .inr (13, oX10 v_there v_count v_captures v_ranges (.ref h2) (.ref h3) (.ref h4) (.ref h5) (.ref h6) (.ref h7) (.ref h8) (.ref h9) (.ref h10) (.ref h11) (.ref h12) (.ref h13) (.ref h1) (.ref h14) (.ref h15) (.ref h16))), (h1, .inl (k0, 256, .inl (fun q9 => bz (v_withinCase q9))))] sz) := by
  refine Met.ofW (cc := cX10_isWithinCase) (maxL := 2) (ret := (some (.boolean))) (by decide) rfl ?_
  intro p e s m args below meth c s₁ B hml hv
  obtain ⟨rfl, hsz, hP, hK, hD0⟩ := hv
  have hx := B.exec
  have hb := B.bytes
  have hr := B.returns
  have hts := atoms_spec (ws := WS yX10_isWithinCase cX10_isWithinCase 2 (some (.boolean))) B.pre
  have ht : ∀ w ∈ TW, w.before _ s = true := fun w h => hts w (List.mem_cons_of_mem _ h)
  have hown : s.vm.findClass "PatternWorkshop$Tree" = some m.cls := findClass_of_methodNamed B.named
  have hlocks := B.notSynchronized
  subst hsz
  have hD := hD0.self (sz := s.heap.size)
  generalize hAe : va_A [(h0, .inr (13, oX10 v_there v_count v_captures v_ranges (.ref h2) (.ref h3) (.ref h4) (.ref h5) (.ref h6) (.ref h7) (.ref h8) (.ref h9) (.ref h10) (.ref h11) (.ref h12) (.ref h13) (.ref h1) (.ref h14) (.ref h15) (.ref h16))), (h1, .inl (k0, 256, .inl (fun q9 => bz (v_withinCase q9))))] s.heap.size = A at hD ⊢
  have hA : ∀ q : Nat, s.heap.size ≤ q → A q := fun q h => by rw [← hAe]; exact Or.inr h
  have hS : va_S A s.heap s.heap [] := va_S.rf
  have hP : va_P (dC, dI) vwCl [(h0, .inr (13, oX10 v_there v_count v_captures v_ranges (.ref h2) (.ref h3) (.ref h4) (.ref h5) (.ref h6) (.ref h7) (.ref h8) (.ref h9) (.ref h10) (.ref h11) (.ref h12) (.ref h13) (.ref h1) (.ref h14) (.ref h15) (.ref h16))), (h1, .inl (k0, 256, .inl (fun q9 => bz (v_withinCase q9))))] s.heap := hP
  have hl := lv_entry ([.ref h0, .int p1]) (n := 2) (Nat.le_of_ble_eq_true rfl)
  rw [lg_entry_eq]
  generalize (lg_sl ([.ref h0, .int p1]) ++ List.replicate (2 - (lg_sl ([.ref h0, .int p1])).length) Slot.unset).toArray = ls at hl ⊢
  have hl : lv_has ls 2 [(0, .ref h0), (1, .int p1)] := hl
  clear hD0
  obtain ⟨QQ, hQQ⟩ : ∃ QQ, QQ = MQ below (va_Qi (fun (r u : Int32) => r = u) (fun (u : Int32) (t : State) => (Q u) ∧ va_P (dC, dI) vwCl [(h0, .inr (13, oX10 v_there v_count v_captures v_ranges (.ref h2) (.ref h3) (.ref h4) (.ref h5) (.ref h6) (.ref h7) (.ref h8) (.ref h9) (.ref h10) (.ref h11) (.ref h12) (.ref h13) (.ref h1) (.ref h14) (.ref h15) (.ref h16))), (h1, .inl (k0, 256, .inl (fun q9 => bz (v_withinCase q9))))] t.heap ∧ va_D A [(h0, .inr (13, oX10 v_there v_count v_captures v_ranges (.ref h2) (.ref h3) (.ref h4) (.ref h5) (.ref h6) (.ref h7) (.ref h8) (.ref h9) (.ref h10) (.ref h11) (.ref h12) (.ref h13) (.ref h1) (.ref h14) (.ref h15) (.ref h16))), (h1, .inl (k0, 256, .inl (fun q9 => bz (v_withinCase q9))))]) A) ([.ref h0, .int p1]).toArray s 0 0 A := ⟨_, rfl⟩
  show W p l e ({ frames := 0, cells := 0, slots := 0, locals := 0 } : Room) s m ([.ref h0, .int p1]).toArray below meth c s.heap [] 0 0 (MQ below (va_Qi (fun (r u : Int32) => r = u) (fun (u : Int32) (t : State) => (Q u) ∧ va_P (dC, dI) vwCl [(h0, .inr (13, oX10 v_there v_count v_captures v_ranges (.ref h2) (.ref h3) (.ref h4) (.ref h5) (.ref h6) (.ref h7) (.ref h8) (.ref h9) (.ref h10) (.ref h11) (.ref h12) (.ref h13) (.ref h1) (.ref h14) (.ref h15) (.ref h16))), (h1, .inl (k0, 256, .inl (fun q9 => bz (v_withinCase q9))))] t.heap ∧ va_D A [(h0, .inr (13, oX10 v_there v_count v_captures v_ranges (.ref h2) (.ref h3) (.ref h4) (.ref h5) (.ref h6) (.ref h7) (.ref h8) (.ref h9) (.ref h10) (.ref h11) (.ref h12) (.ref h13) (.ref h1) (.ref h14) (.ref h15) (.ref h16))), (h1, .inl (k0, 256, .inl (fun q9 => bz (v_withinCase q9))))]) A) ([.ref h0, .int p1]).toArray s 0 0 A) (F0 m 0 ls [])
  rw [← hQQ]
  unfold w_X10_isWithinCase at w
  refine lv_iload_n hx hb dX10_isWithinCase_0 rfl (lv_at hl 1 rfl) ?_
  have k_26 : ∀ (s0_26 : Int32), ∀ (H_b26 : Heap) (locs_b26 : List Loc) (ls_b26 : Array Slot), w_X10_isWithinCase_26 Q s0_26 → va_P (dC, dI) vwCl [(h0, .inr (13, oX10 v_there v_count v_captures v_ranges (.ref h2) (.ref h3) (.ref h4) (.ref h5) (.ref h6) (.ref h7) (.ref h8) (.ref h9) (.ref h10) (.ref h11) (.ref h12) (.ref h13) (.ref h1) (.ref h14) (.ref h15) (.ref h16))), (h1, .inl (k0, 256, .inl (fun q9 => bz (v_withinCase q9))))] H_b26 → va_D A [(h0, .inr (13, oX10 v_there v_count v_captures v_ranges (.ref h2) (.ref h3) (.ref h4) (.ref h5) (.ref h6) (.ref h7) (.ref h8) (.ref h9) (.ref h10) (.ref h11) (.ref h12) (.ref h13) (.ref h1) (.ref h14) (.ref h15) (.ref h16))), (h1, .inl (k0, 256, .inl (fun q9 => bz (v_withinCase q9))))] → va_S A s.heap H_b26 locs_b26 → lv_has ls_b26 2 [] → W p l e ({ frames := 0, cells := 0, slots := 0, locals := 0 } : Room) s m ([.ref h0, .int p1]).toArray below meth c H_b26 locs_b26 0 0 QQ (F0 m 26 ls_b26 [.int s0_26]) := by
    intro s0_26 H_b26 locs_b26 ls_b26 w_b26 hP_b26 hD_b26 hS_b26 hl_b26
    unfold w_X10_isWithinCase_26 at w_b26
    rw [hQQ]
    exact W.zret (v := s0_26) hx hb hr (or_nar w_b26.1) (fun t9 ht9 hW9 => ⟨⟨s0_26, s0_26, rfl, rfl, ⟨w_b26.2, by rw [ht9]; exact hP_b26, hD_b26⟩⟩, hS_b26.F ht9⟩) hS_b26.2.2 dX10_isWithinCase_26
  have k_25 : ∀ (H_b25 : Heap) (locs_b25 : List Loc) (ls_b25 : Array Slot), w_X10_isWithinCase_25 Q → va_P (dC, dI) vwCl [(h0, .inr (13, oX10 v_there v_count v_captures v_ranges (.ref h2) (.ref h3) (.ref h4) (.ref h5) (.ref h6) (.ref h7) (.ref h8) (.ref h9) (.ref h10) (.ref h11) (.ref h12) (.ref h13) (.ref h1) (.ref h14) (.ref h15) (.ref h16))), (h1, .inl (k0, 256, .inl (fun q9 => bz (v_withinCase q9))))] H_b25 → va_D A [(h0, .inr (13, oX10 v_there v_count v_captures v_ranges (.ref h2) (.ref h3) (.ref h4) (.ref h5) (.ref h6) (.ref h7) (.ref h8) (.ref h9) (.ref h10) (.ref h11) (.ref h12) (.ref h13) (.ref h1) (.ref h14) (.ref h15) (.ref h16))), (h1, .inl (k0, 256, .inl (fun q9 => bz (v_withinCase q9))))] → va_S A s.heap H_b25 locs_b25 → lv_has ls_b25 2 [] → W p l e ({ frames := 0, cells := 0, slots := 0, locals := 0 } : Room) s m ([.ref h0, .int p1]).toArray below meth c H_b25 locs_b25 0 0 QQ (F0 m 25 ls_b25 []) := by
    intro  H_b25 locs_b25 ls_b25 w_b25 hP_b25 hD_b25 hS_b25 hl_b25
    unfold w_X10_isWithinCase_25 at w_b25
    refine lv_iconst (v := 0) hx hb dX10_isWithinCase_25 (by decide) ?_
    exact k_26 0 _ _ _ w_b25 hP_b25 hD_b25 hS_b25 (lv_sub hl_b25 [] rfl)
  refine lv_if_lt (tgt := 25) hx hb dX10_isWithinCase_1 (by decide) (fun c_1 => ?_) (fun c_1 => ?_)
  · exact k_25  _ _ _ (w.1 c_1) hP hD hS (lv_sub hl [] rfl)
  · refine lv_iload_n hx hb dX10_isWithinCase_4 rfl (lv_at hl 1 rfl) ?_
    refine lv_aload_n hx hb dX10_isWithinCase_5 rfl (lv_at hl 0 rfl) ?_
    refine va_get (D := (dC, dI)) (ci := 13) (v := .int v_count) (C := RX10) (T := TX10) (N := 20) hx hb ht inX10 hown hK hP 0 rfl rfl 1 (by decide) (ht _ tw_319) (fun _ h9 => h9) rfl dX10_isWithinCase_6 ?_
    refine lv_icmp_ge (tgt := 25) hx hb dX10_isWithinCase_9 (by decide) (fun c_2 => ?_) (fun c_2 => ?_)
    · exact k_25  _ _ _ ((w.2 c_1).1 c_2) hP hD hS (lv_sub hl [] rfl)
    · refine lv_aload_n hx hb dX10_isWithinCase_12 rfl (lv_at hl 0 rfl) ?_
      refine va_get (D := (dC, dI)) (ci := 13) (v := .ref h1) (C := RX10) (T := TX10) (N := 20) hx hb ht inX10 hown hK hP 0 rfl rfl 16 (by decide) (ht _ tw_339) (fun _ h9 => h9) rfl dX10_isWithinCase_13 ?_
      refine lv_iload_n hx hb dX10_isWithinCase_16 rfl (lv_at hl 1 rfl) ?_
      refine va_zald hx hb hK hP 1 0 rfl rfl (i := p1) ((w.2 c_1).2 c_2).1 dX10_isWithinCase_17 ?_
      refine lv_topi (fun x_3 ex_3 => ?_)
      have ex_3 : x_3 = bz (v_withinCase p1.toNatClampNeg) := ex_3
      refine lv_if_eq (tgt := 25) hx hb dX10_isWithinCase_18 (by decide) (fun c_4 => ?_) (fun c_4 => ?_)
      · exact k_25  _ _ _ (((((w.2 c_1).2 c_2).2) x_3 ex_3).1 c_4) hP hD hS (lv_sub hl [] rfl)
      · refine lv_iconst (v := 1) hx hb dX10_isWithinCase_21 (by decide) ?_
        refine lv_goto (tgt := 26) hx hb dX10_isWithinCase_22 (by decide) ?_
        exact k_26 1 _ _ _ (((((w.2 c_1).2 c_2).2) x_3 ex_3).2 c_4) hP hD hS (lv_sub hl [] rfl)
def w_X10_isMarked_26 (Q : Int32 → Prop) (s0_26 : Int32) : Prop :=
  (s0_26 = 0 ∨ s0_26 = 1) ∧ Q s0_26
def w_X10_isMarked_25 (Q : Int32 → Prop) : Prop :=
  w_X10_isMarked_26 Q 0
def w_X10_isMarked (p1 : Int32) (v_count : Int32) (v_marked : Nat → Bool) (Q : Int32 → Prop) : Prop :=
  ((p1 < 0) → w_X10_isMarked_25 Q) ∧ ((¬ p1 < 0) → ((v_count ≤ p1) → w_X10_isMarked_25 Q) ∧ ((¬ v_count ≤ p1) → vp_in p1 256 ∧ ∀ x_3 : Int32, x_3 = bz (v_marked p1.toNatClampNeg) → ((x_3 = 0) → w_X10_isMarked_25 Q) ∧ ((¬ x_3 = 0) → w_X10_isMarked_26 Q 1)))
set_option maxHeartbeats 4000000 in
set_option maxRecDepth 100000 in
theorem mt_X10_isMarked (l : Launch) (dC : Nat → ClassId) (dI : Nat → Nat → Nat) (h0 h1 h2 h3 h4 h5 h6 h7 h8 h9 h10 h11 h12 h13 h14 h15 h16 : Nat) (k0 : ClassId) (p1 : Int32) (v_there : Bool) (v_count : Int32) (v_captures : Int32) (v_ranges : Int32) (v_marked : Nat → Bool) (Q : Int32 → Prop) (w : w_X10_isMarked p1 v_count v_marked Q) (sz : Nat) : Met l yX10_isMarked (WS yX10_isMarked cX10_isMarked 2 (some (.boolean))) ({ frames := 0, cells := 0, slots := 0, locals := 0 } : Room) (va_Pc [.ref h0, .int p1] (fun U => U.heap.size = sz ∧ va_P (dC, dI) vwCl [(h0, .inr (13, oX10 v_there v_count v_captures v_ranges (.ref h2) (.ref h3) (.ref h4) (.ref h5) (.ref h6) (.ref h7) (.ref h8) (.ref h9) (.ref h10) (.ref h11) (.ref h12) (.ref h13) (.ref h14) (.ref h1) (.ref h15) (.ref h16))), (h1, .inl (k0, 256, .inl (fun q9 => bz (v_marked q9))))] U.heap ∧ va_K (dC, dI) vwCl [(k0, .boolean)] U ∧ va_D (fun _ => True) [(h0, .inr (13, oX10 v_there v_count v_captures v_ranges (.ref h2) (.ref h3) (.ref h4) (.ref h5) (.ref h6) (.ref h7) (.ref h8) (.ref h9) (.ref h10) (.ref h11) (.ref h12) (.ref h13) (.ref h14) (.ref h1) (.ref h15) (.ref h16))), (h1, .inl (k0, 256, .inl (fun q9 => bz (v_marked q9))))])) (va_Qi (fun (r u : Int32) => r = u) (fun (u : Int32) (t : State) => (Q u) ∧ va_P (dC, dI) vwCl [(h0, .inr (13, oX10 v_there v_count v_captures v_ranges (.ref h2) (.ref h3) (.ref h4) (.ref h5) (.ref h6) (.ref h7) (.ref h8) (.ref h9) (.ref h10) (.ref h11) (.ref h12) (.ref h13) (.ref h14) (.ref h1) (.ref h15) (.ref h16))), (h1, .inl (k0, 256, .inl (fun q9 => bz (v_marked q9))))] t.heap ∧ va_D (va_A [(h0, .inr (13, oX10 v_there v_count v_captures v_ranges (.ref h2) (.ref h3) (.ref h4) (.ref h5) (.ref h6) (.ref h7) (.ref h8) (.ref h9) (.ref h10) (.ref h11) (.ref h12) (.ref h13) (.ref h14) (.ref h1) (.ref h15) (.ref h16))), (h1, .inl (k0, 256, .inl (fun q9 => bz (v_marked q9))))] sz) [(h0, .inr (13, oX10 v_there v_count v_captures v_ranges (.ref h2) (.ref h3) (.ref h4) (.ref h5) (.ref h6) (.ref h7) (.ref h8) (.ref h9) (.ref h10) (.ref h11) (.ref h12) (.ref h13) (.ref h14) (.ref h1) (.ref h15) (.ref h16))), (h1, .inl (k0, 256, .inl (fun q9 => bz (v_marked q9))))]) (va_A [(h0, .inr (13, oX10 v_there v_count v_captures v_ranges (.ref h2) (.ref h3) (.ref h4) (.ref h5) (.ref h6) (.ref h7) (.ref h8) (.ref h9) (.ref h10) (.ref h11) (.ref h12) (.ref h13) (.ref h14) (.ref h1) (.ref h15) (.ref h16))), (h1, .inl (k0, 256, .inl (fun q9 => bz (v_marked q9))))] sz)) 0 0 (va_A [(h0, .inr (13, oX10 v_there v_count v_captures v_ranges (.ref h2) (.ref h3) (.ref h4) (.ref h5) (.ref h6) (.ref h7) (.ref h8) (.ref h9) (.ref h10) (.ref h11) (.ref h12) (.ref h13) (.ref h14) (.ref h1) (.ref h15) (.ref h16))), (h1, .inl (k0, 256, .inl (fun q9 => bz (v_marked q9))))] sz) := by
  refine Met.ofW (cc := cX10_isMarked) (maxL := 2) (ret := (some (.boolean))) (by decide) rfl ?_
  intro p e s m args below meth c s₁ B hml hv
  obtain ⟨rfl, hsz, hP, hK, hD0⟩ := hv
  have hx := B.exec
  have hb := B.bytes
  have hr := B.returns
  have hts := atoms_spec (ws := WS yX10_isMarked cX10_isMarked 2 (some (.boolean))) B.pre
  have ht : ∀ w ∈ TW, w.before _ s = true := fun w h => hts w (List.mem_cons_of_mem _ h)
  have hown : s.vm.findClass "PatternWorkshop$Tree" = some m.cls := findClass_of_methodNamed B.named
  have hlocks := B.notSynchronized
  subst hsz
  have hD := hD0.self (sz := s.heap.size)
  generalize hAe : va_A [(h0, .inr (13, oX10 v_there v_count v_captures v_ranges (.ref h2) (.ref h3) (.ref h4) (.ref h5) (.ref h6) (.ref h7) (.ref h8) (.ref h9) (.ref h10) (.ref h11) (.ref h12) (.ref h13) (.ref h14) (.ref h1) (.ref h15) (.ref h16))), (h1, .inl (k0, 256, .inl (fun q9 => bz (v_marked q9))))] s.heap.size = A at hD ⊢
  have hA : ∀ q : Nat, s.heap.size ≤ q → A q := fun q h => by rw [← hAe]; exact Or.inr h
  have hS : va_S A s.heap s.heap [] := va_S.rf
  have hP : va_P (dC, dI) vwCl [(h0, .inr (13, oX10 v_there v_count v_captures v_ranges (.ref h2) (.ref h3) (.ref h4) (.ref h5) (.ref h6) (.ref h7) (.ref h8) (.ref h9) (.ref h10) (.ref h11) (.ref h12) (.ref h13) (.ref h14) (.ref h1) (.ref h15) (.ref h16))), (h1, .inl (k0, 256, .inl (fun q9 => bz (v_marked q9))))] s.heap := hP
  have hl := lv_entry ([.ref h0, .int p1]) (n := 2) (Nat.le_of_ble_eq_true rfl)
  rw [lg_entry_eq]
  generalize (lg_sl ([.ref h0, .int p1]) ++ List.replicate (2 - (lg_sl ([.ref h0, .int p1])).length) Slot.unset).toArray = ls at hl ⊢
  have hl : lv_has ls 2 [(0, .ref h0), (1, .int p1)] := hl
  clear hD0
  obtain ⟨QQ, hQQ⟩ : ∃ QQ, QQ = MQ below (va_Qi (fun (r u : Int32) => r = u) (fun (u : Int32) (t : State) => (Q u) ∧ va_P (dC, dI) vwCl [(h0, .inr (13, oX10 v_there v_count v_captures v_ranges (.ref h2) (.ref h3) (.ref h4) (.ref h5) (.ref h6) (.ref h7) (.ref h8) (.ref h9) (.ref h10) (.ref h11) (.ref h12) (.ref h13) (.ref h14) (.ref h1) (.ref h15) (.ref h16))), (h1, .inl (k0, 256, .inl (fun q9 => bz (v_marked q9))))] t.heap ∧ va_D A [(h0, .inr (13, oX10 v_there v_count v_captures v_ranges (.ref h2) (.ref h3) (.ref h4) (.ref h5) (.ref h6) (.ref h7) (.ref h8) (.ref h9) (.ref h10) (.ref h11) (.ref h12) (.ref h13) (.ref h14) (.ref h1) (.ref h15) (.ref h16))), (h1, .inl (k0, 256, .inl (fun q9 => bz (v_marked q9))))]) A) ([.ref h0, .int p1]).toArray s 0 0 A := ⟨_, rfl⟩
  show W p l e ({ frames := 0, cells := 0, slots := 0, locals := 0 } : Room) s m ([.ref h0, .int p1]).toArray below meth c s.heap [] 0 0 (MQ below (va_Qi (fun (r u : Int32) => r = u) (fun (u : Int32) (t : State) => (Q u) ∧ va_P (dC, dI) vwCl [(h0, .inr (13, oX10 v_there v_count v_captures v_ranges (.ref h2) (.ref h3) (.ref h4) (.ref h5) (.ref h6) (.ref h7) (.ref h8) (.ref h9) (.ref h10) (.ref h11) (.ref h12) (.ref h13) (.ref h14) (.ref h1) (.ref h15) (.ref h16))), (h1, .inl (k0, 256, .inl (fun q9 => bz (v_marked q9))))] t.heap ∧ va_D A [(h0, .inr (13, oX10 v_there v_count v_captures v_ranges (.ref h2) (.ref h3) (.ref h4) (.ref h5) (.ref h6) (.ref h7) (.ref h8) (.ref h9) (.ref h10) (.ref h11) (.ref h12) (.ref h13) (.ref h14) (.ref h1) (.ref h15) (.ref h16))), (h1, .inl (k0, 256, .inl (fun q9 => bz (v_marked q9))))]) A) ([.ref h0, .int p1]).toArray s 0 0 A) (F0 m 0 ls [])
  rw [← hQQ]
  unfold w_X10_isMarked at w
  refine lv_iload_n hx hb dX10_isMarked_0 rfl (lv_at hl 1 rfl) ?_
  have k_26 : ∀ (s0_26 : Int32), ∀ (H_b26 : Heap) (locs_b26 : List Loc) (ls_b26 : Array Slot), w_X10_isMarked_26 Q s0_26 → va_P (dC, dI) vwCl [(h0, .inr (13, oX10 v_there v_count v_captures v_ranges (.ref h2) (.ref h3) (.ref h4) (.ref h5) (.ref h6) (.ref h7) (.ref h8) (.ref h9) (.ref h10) (.ref h11) (.ref h12) (.ref h13) (.ref h14) (.ref h1) (.ref h15) (.ref h16))), (h1, .inl (k0, 256, .inl (fun q9 => bz (v_marked q9))))] H_b26 → va_D A [(h0, .inr (13, oX10 v_there v_count v_captures v_ranges (.ref h2) (.ref h3) (.ref h4) (.ref h5) (.ref h6) (.ref h7) (.ref h8) (.ref h9) (.ref h10) (.ref h11) (.ref h12) (.ref h13) (.ref h14) (.ref h1) (.ref h15) (.ref h16))), (h1, .inl (k0, 256, .inl (fun q9 => bz (v_marked q9))))] → va_S A s.heap H_b26 locs_b26 → lv_has ls_b26 2 [] → W p l e ({ frames := 0, cells := 0, slots := 0, locals := 0 } : Room) s m ([.ref h0, .int p1]).toArray below meth c H_b26 locs_b26 0 0 QQ (F0 m 26 ls_b26 [.int s0_26]) := by
    intro s0_26 H_b26 locs_b26 ls_b26 w_b26 hP_b26 hD_b26 hS_b26 hl_b26
    unfold w_X10_isMarked_26 at w_b26
    rw [hQQ]
    exact W.zret (v := s0_26) hx hb hr (or_nar w_b26.1) (fun t9 ht9 hW9 => ⟨⟨s0_26, s0_26, rfl, rfl, ⟨w_b26.2, by rw [ht9]; exact hP_b26, hD_b26⟩⟩, hS_b26.F ht9⟩) hS_b26.2.2 dX10_isMarked_26
  have k_25 : ∀ (H_b25 : Heap) (locs_b25 : List Loc) (ls_b25 : Array Slot), w_X10_isMarked_25 Q → va_P (dC, dI) vwCl [(h0, .inr (13, oX10 v_there v_count v_captures v_ranges (.ref h2) (.ref h3) (.ref h4) (.ref h5) (.ref h6) (.ref h7) (.ref h8) (.ref h9) (.ref h10) (.ref h11) (.ref h12) (.ref h13) (.ref h14) (.ref h1) (.ref h15) (.ref h16))), (h1, .inl (k0, 256, .inl (fun q9 => bz (v_marked q9))))] H_b25 → va_D A [(h0, .inr (13, oX10 v_there v_count v_captures v_ranges (.ref h2) (.ref h3) (.ref h4) (.ref h5) (.ref h6) (.ref h7) (.ref h8) (.ref h9) (.ref h10) (.ref h11) (.ref h12) (.ref h13) (.ref h14) (.ref h1) (.ref h15) (.ref h16))), (h1, .inl (k0, 256, .inl (fun q9 => bz (v_marked q9))))] → va_S A s.heap H_b25 locs_b25 → lv_has ls_b25 2 [] → W p l e ({ frames := 0, cells := 0, slots := 0, locals := 0 } : Room) s m ([.ref h0, .int p1]).toArray below meth c H_b25 locs_b25 0 0 QQ (F0 m 25 ls_b25 []) := by
    intro  H_b25 locs_b25 ls_b25 w_b25 hP_b25 hD_b25 hS_b25 hl_b25
    unfold w_X10_isMarked_25 at w_b25
    refine lv_iconst (v := 0) hx hb dX10_isMarked_25 (by decide) ?_
    exact k_26 0 _ _ _ w_b25 hP_b25 hD_b25 hS_b25 (lv_sub hl_b25 [] rfl)
  refine lv_if_lt (tgt := 25) hx hb dX10_isMarked_1 (by decide) (fun c_1 => ?_) (fun c_1 => ?_)
  · exact k_25  _ _ _ (w.1 c_1) hP hD hS (lv_sub hl [] rfl)
  · refine lv_iload_n hx hb dX10_isMarked_4 rfl (lv_at hl 1 rfl) ?_
    refine lv_aload_n hx hb dX10_isMarked_5 rfl (lv_at hl 0 rfl) ?_
    refine va_get (D := (dC, dI)) (ci := 13) (v := .int v_count) (C := RX10) (T := TX10) (N := 20) hx hb ht inX10 hown hK hP 0 rfl rfl 1 (by decide) (ht _ tw_319) (fun _ h9 => h9) rfl dX10_isMarked_6 ?_
    refine lv_icmp_ge (tgt := 25) hx hb dX10_isMarked_9 (by decide) (fun c_2 => ?_) (fun c_2 => ?_)
    · exact k_25  _ _ _ ((w.2 c_1).1 c_2) hP hD hS (lv_sub hl [] rfl)
    · refine lv_aload_n hx hb dX10_isMarked_12 rfl (lv_at hl 0 rfl) ?_
      refine va_get (D := (dC, dI)) (ci := 13) (v := .ref h1) (C := RX10) (T := TX10) (N := 20) hx hb ht inX10 hown hK hP 0 rfl rfl 17 (by decide) (ht _ tw_340) (fun _ h9 => h9) rfl dX10_isMarked_13 ?_
      refine lv_iload_n hx hb dX10_isMarked_16 rfl (lv_at hl 1 rfl) ?_
      refine va_zald hx hb hK hP 1 0 rfl rfl (i := p1) ((w.2 c_1).2 c_2).1 dX10_isMarked_17 ?_
      refine lv_topi (fun x_3 ex_3 => ?_)
      have ex_3 : x_3 = bz (v_marked p1.toNatClampNeg) := ex_3
      refine lv_if_eq (tgt := 25) hx hb dX10_isMarked_18 (by decide) (fun c_4 => ?_) (fun c_4 => ?_)
      · exact k_25  _ _ _ (((((w.2 c_1).2 c_2).2) x_3 ex_3).1 c_4) hP hD hS (lv_sub hl [] rfl)
      · refine lv_iconst (v := 1) hx hb dX10_isMarked_21 (by decide) ?_
        refine lv_goto (tgt := 26) hx hb dX10_isMarked_22 (by decide) ?_
        exact k_26 1 _ _ _ (((((w.2 c_1).2 c_2).2) x_3 ex_3).2 c_4) hP hD hS (lv_sub hl [] rfl)
