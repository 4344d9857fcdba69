def w_X11_isMachine_14 (Q : Int32 → Prop) (s0_14 : Int32) : Prop :=
  (s0_14 = 0 ∨ s0_14 = 1) ∧ Q s0_14
def w_X11_isMachine_13 (Q : Int32 → Prop) : Prop :=
  w_X11_isMachine_14 Q 0
def w_X11_isMachine (p0 : Int32) (Q : Int32 → Prop) : Prop :=
  ((p0 < 0) → w_X11_isMachine_13 Q) ∧ ((¬ p0 < 0) → ((2 < p0) → w_X11_isMachine_13 Q) ∧ ((¬ 2 < p0) → w_X11_isMachine_14 Q 1))
set_option maxHeartbeats 4000000 in
set_option maxRecDepth 100000 in
theorem mt_X11_isMachine (l : Launch) (dC : Nat → ClassId) (dI : Nat → Nat → Nat) (p0 : Int32) (Q : Int32 → Prop) (w : w_X11_isMachine p0 Q) (sz : Nat) : Met l yX11_isMachine (WS yX11_isMachine cX11_isMachine 1 (some (.boolean))) ({ frames := 0, cells := 0, slots := 0, locals := 0 } : Room) (va_Pc [.int p0] (fun U => U.heap.size = sz ∧ va_P (dC, dI) vwCl [] U.heap ∧ va_K (dC, dI) vwCl [] U ∧ va_D (fun _ => True) [])) (va_Qi (fun (r u : Int32) => r = u) (fun (u : Int32) (t : State) => (Q u) ∧ va_P (dC, dI) vwCl [] t.heap ∧ va_D (va_A [] sz) []) (va_A [] sz)) 0 0 (va_A [] sz) := by
  refine Met.ofW (cc := cX11_isMachine) (maxL := 1) (ret := (some (.boolean))) (by decide) rfl ?_
  intro p e s m args below meth c s₁ B hml hv
  obtain ⟨rfl, hsz, hP, hK, hD0⟩ := hv
  have hx := B.exec
  have hb := B.bytes
  have hr := B.returns
  have hts := atoms_spec (ws := WS yX11_isMachine cX11_isMachine 1 (some (.boolean))) B.pre
  have ht : ∀ w ∈ TW, w.before _ s = true := fun w h => hts w (List.mem_cons_of_mem _ h)
  have hown : s.vm.findClass "PatternWorkshop" = some m.cls := findClass_of_methodNamed B.named
  have hlocks := B.notSynchronized
  subst hsz
  have hD := hD0.self (sz := s.heap.size)
  generalize hAe : va_A [] s.heap.size = A at hD ⊢
  have hA : ∀ q : Nat, s.heap.size ≤ q → A q := fun q h => by rw [← hAe]; exact Or.inr h
  have hS : va_S A s.heap s.heap [] := va_S.rf
  have hP : va_P (dC, dI) vwCl [] s.heap := hP
  have hl := lv_entry ([.int p0]) (n := 1) (Nat.le_of_ble_eq_true rfl)
  rw [lg_entry_eq]
  generalize (lg_sl ([.int p0]) ++ List.replicate (1 - (lg_sl ([.int p0])).length) Slot.unset).toArray = ls at hl ⊢
  have hl : lv_has ls 1 [(0, .int p0)] := hl
  clear hD0
  obtain ⟨QQ, hQQ⟩ : ∃ QQ, QQ = MQ below (va_Qi (fun (r u : Int32) => r = u) (fun (u : Int32) (t : State) => (Q u) ∧ va_P (dC, dI) vwCl [] t.heap ∧ va_D A []) A) ([.int p0]).toArray s 0 0 A := ⟨_, rfl⟩
  show W p l e ({ frames := 0, cells := 0, slots := 0, locals := 0 } : Room) s m ([.int p0]).toArray below meth c s.heap [] 0 0 (MQ below (va_Qi (fun (r u : Int32) => r = u) (fun (u : Int32) (t : State) => (Q u) ∧ va_P (dC, dI) vwCl [] t.heap ∧ va_D A []) A) ([.int p0]).toArray s 0 0 A) (F0 m 0 ls [])
  rw [← hQQ]
  unfold w_X11_isMachine at w
  refine lv_iload_n hx hb dX11_isMachine_0 rfl (lv_at hl 0 rfl) ?_
  have k_14 : ∀ (s0_14 : Int32), ∀ (H_b14 : Heap) (locs_b14 : List Loc) (ls_b14 : Array Slot), w_X11_isMachine_14 Q s0_14 → va_P (dC, dI) vwCl [] H_b14 → va_D A [] → va_S A s.heap H_b14 locs_b14 → lv_has ls_b14 1 [] → W p l e ({ frames := 0, cells := 0, slots := 0, locals := 0 } : Room) s m ([.int p0]).toArray below meth c H_b14 locs_b14 0 0 QQ (F0 m 14 ls_b14 [.int s0_14]) := by
    intro s0_14 H_b14 locs_b14 ls_b14 w_b14 hP_b14 hD_b14 hS_b14 hl_b14
    unfold w_X11_isMachine_14 at w_b14
    rw [hQQ]
    exact W.zret (v := s0_14) hx hb hr (or_nar w_b14.1) (fun t9 ht9 hW9 => ⟨⟨s0_14, s0_14, rfl, rfl, ⟨w_b14.2, by rw [ht9]; exact hP_b14, hD_b14⟩⟩, hS_b14.F ht9⟩) hS_b14.2.2 dX11_isMachine_14
  have k_13 : ∀ (H_b13 : Heap) (locs_b13 : List Loc) (ls_b13 : Array Slot), w_X11_isMachine_13 Q → va_P (dC, dI) vwCl [] H_b13 → va_D A [] → va_S A s.heap H_b13 locs_b13 → lv_has ls_b13 1 [] → W p l e ({ frames := 0, cells := 0, slots := 0, locals := 0 } : Room) s m ([.int p0]).toArray below meth c H_b13 locs_b13 0 0 QQ (F0 m 13 ls_b13 []) := by
    intro  H_b13 locs_b13 ls_b13 w_b13 hP_b13 hD_b13 hS_b13 hl_b13
    unfold w_X11_isMachine_13 at w_b13
    refine lv_iconst (v := 0) hx hb dX11_isMachine_13 (by decide) ?_
    exact k_14 0 _ _ _ w_b13 hP_b13 hD_b13 hS_b13 (lv_sub hl_b13 [] rfl)
  refine lv_if_lt (tgt := 13) hx hb dX11_isMachine_1 (by decide) (fun c_1 => ?_) (fun c_1 => ?_)
  · exact k_13  _ _ _ (w.1 c_1) hP hD hS (lv_sub hl [] rfl)
  · refine lv_iload_n hx hb dX11_isMachine_4 rfl (lv_at hl 0 rfl) ?_
    refine lv_iconst (v := 2) hx hb dX11_isMachine_5 (by decide) ?_
    refine lv_icmp_gt (tgt := 13) hx hb dX11_isMachine_6 (by decide) (fun c_2 => ?_) (fun c_2 => ?_)
    · exact k_13  _ _ _ ((w.2 c_1).1 c_2) hP hD hS (lv_sub hl [] rfl)
    · refine lv_iconst (v := 1) hx hb dX11_isMachine_9 (by decide) ?_
      refine lv_goto (tgt := 14) hx hb dX11_isMachine_10 (by decide) ?_
      exact k_14 1 _ _ _ ((w.2 c_1).2 c_2) hP hD hS (lv_sub hl [] rfl)
def w_X11_byteOf (p0 : Int64) (p1 : Int32) (Q : Int32 → Prop) : Prop :=
  ∀ x_1 : Int32, x_1 = (8 : Int32) * p1 → ∀ y_2 : Int64, y_2 = (p0.toUInt64 >>> (x_1.toInt64.toUInt64 &&& Int64.toUInt64 63)).toInt64 → ∀ x_3 : Int32, x_3 = y_2.toInt32 → ∀ x_4 : Int32, x_4 = x_3 &&& (255 : Int32) → Q x_4
set_option maxHeartbeats 4000000 in
set_option maxRecDepth 100000 in
theorem mt_X11_byteOf (l : Launch) (dC : Nat → ClassId) (dI : Nat → Nat → Nat) (p0 : Int64) (p1 : Int32) (Q : Int32 → Prop) (w : w_X11_byteOf p0 p1 Q) (sz : Nat) : Met l yX11_byteOf (WS yX11_byteOf cX11_byteOf 3 (some (.int))) ({ frames := 0, cells := 0, slots := 0, locals := 0 } : Room) (va_Pc [.long p0, .int p1] (fun U => U.heap.size = sz ∧ va_P (dC, dI) vwCl [] U.heap ∧ va_K (dC, dI) vwCl [] U ∧ va_D (fun _ => True) [])) (va_Qi (fun (r u : Int32) => r = u) (fun (u : Int32) (t : State) => (Q u) ∧ va_P (dC, dI) vwCl [] t.heap ∧ va_D (va_A [] sz) []) (va_A [] sz)) 0 0 (va_A [] sz) := by
  refine Met.ofW (cc := cX11_byteOf) (maxL := 3) (ret := (some (.int))) (by decide) rfl ?_
  intro p e s m args below meth c s₁ B hml hv
  obtain ⟨rfl, hsz, hP, hK, hD0⟩ := hv
  have hx := B.exec
  have hb := B.bytes
  have hr := B.returns
  have hts := atoms_spec (ws := WS yX11_byteOf cX11_byteOf 3 (some (.int))) B.pre
  have ht : ∀ w ∈ TW, w.before _ s = true := fun w h => hts w (List.mem_cons_of_mem _ h)
  have hown : s.vm.findClass "PatternWorkshop" = some m.cls := findClass_of_methodNamed B.named
  have hlocks := B.notSynchronized
  subst hsz
  have hD := hD0.self (sz := s.heap.size)
  generalize hAe : va_A [] s.heap.size = A at hD ⊢
  have hA : ∀ q : Nat, s.heap.size ≤ q → A q := fun q h => by rw [← hAe]; exact Or.inr h
  have hS : va_S A s.heap s.heap [] := va_S.rf
  have hP : va_P (dC, dI) vwCl [] s.heap := hP
  have hl := lv_entry ([.long p0, .int p1]) (n := 3) (Nat.le_of_ble_eq_true rfl)
  rw [lg_entry_eq]
  generalize (lg_sl ([.long p0, .int p1]) ++ List.replicate (3 - (lg_sl ([.long p0, .int p1])).length) Slot.unset).toArray = ls at hl ⊢
  have hl : lv_has ls 3 [(0, .long p0), (2, .int p1)] := hl
  clear hD0
  obtain ⟨QQ, hQQ⟩ : ∃ QQ, QQ = MQ below (va_Qi (fun (r u : Int32) => r = u) (fun (u : Int32) (t : State) => (Q u) ∧ va_P (dC, dI) vwCl [] t.heap ∧ va_D A []) A) ([.long p0, .int p1]).toArray s 0 0 A := ⟨_, rfl⟩
  show W p l e ({ frames := 0, cells := 0, slots := 0, locals := 0 } : Room) s m ([.long p0, .int p1]).toArray below meth c s.heap [] 0 0 (MQ below (va_Qi (fun (r u : Int32) => r = u) (fun (u : Int32) (t : State) => (Q u) ∧ va_P (dC, dI) vwCl [] t.heap ∧ va_D A []) A) ([.long p0, .int p1]).toArray s 0 0 A) (F0 m 0 ls [])
  rw [← hQQ]
  unfold w_X11_byteOf at w
  refine lv_lload_n hx hb dX11_byteOf_0 rfl (lv_at hl 0 rfl) ?_
  refine lv_bipush (v := 8) hx hb dX11_byteOf_1 (by decide) ?_
  refine lv_iload_n hx hb dX11_byteOf_3 rfl (lv_at hl 1 rfl) ?_
  refine lv_imul hx hb dX11_byteOf_4 ?_
  refine lv_topi (fun x_1 ex_1 => ?_)
  have ex_1 : x_1 = (8 : Int32) * p1 := ex_1
  refine lv_lushr hx hb dX11_byteOf_5 rfl ?_
  refine lv_topl (fun y_2 ey_2 => ?_)
  have ey_2 : y_2 = (p0.toUInt64 >>> (x_1.toInt64.toUInt64 &&& Int64.toUInt64 63)).toInt64 := ey_2
  refine lv_l2i hx hb dX11_byteOf_6 rfl ?_
  refine lv_topi (fun x_3 ex_3 => ?_)
  have ex_3 : x_3 = y_2.toInt32 := ex_3
  refine lv_sipush (v := 255) hx hb dX11_byteOf_7 (by decide) ?_
  refine lv_iand hx hb dX11_byteOf_10 ?_
  refine lv_topi (fun x_4 ex_4 => ?_)
  have ex_4 : x_4 = x_3 &&& (255 : Int32) := ex_4
  rw [hQQ]
  exact W.iret (v := x_4) hx hb hr (fun t9 ht9 hW9 => ⟨⟨x_4, x_4, rfl, rfl, ⟨w x_1 ex_1 y_2 ey_2 x_3 ex_3 x_4 ex_4, by rw [ht9]; exact hP, hD⟩⟩, hS.F ht9⟩) hS.2.2 dX11_byteOf_11
def w_X11_tellRow (p1 : Int32) (v_outRow_items : Nat → Int32) (nv_outRow_items : Nat) (v_draft_count : Int32) (v_draft_items : Nat → Int32) (nv_draft_items : Nat) (Q : Bool → Int32 → Bool → (Nat → Int32) → Prop) : Prop :=
  w_X7_take v_draft_count v_draft_items nv_draft_items v_outRow_items nv_outRow_items (fun r_1_0 r_1_1 r_1_2 => (p1 = 0 ∨ p1 = 1) ∧ ∀ b_2 : Bool, p1 = bz b_2 → Q  b_2 r_1_0 r_1_1 r_1_2)
set_option maxHeartbeats 4000000 in
set_option maxRecDepth 100000 in
theorem mt_X11_tellRow (l : Launch) (dC : Nat → ClassId) (dI : Nat → Nat → Nat) (h0 h1 h2 h3 h4 h5 h6 h7 h8 h9 h10 h11 h12 h13 h14 : Nat) (k0 k1 : ClassId) (p1 : Int32) (v_outHasNumbers : Bool) (v_faultPlace : Int32) (v_latestFinding : Int32) (v_latestSteps : Int32) (v_openSlot : Int32) (v_openSubject : Int32) (v_outRow_count : Int32) (v_outRow_over : Bool) (v_outRow_there : Bool) (v_outRow_items : Nat → Int32) (nv_outRow_items : Nat) (v_draft_count : Int32) (v_draft_over : Bool) (v_draft_there : Bool) (v_draft_items : Nat → Int32) (nv_draft_items : Nat) (Q : Bool → Int32 → Bool → (Nat → Int32) → Prop) (w : w_X11_tellRow p1 v_outRow_items nv_outRow_items v_draft_count v_draft_items nv_draft_items Q) (sz : Nat) : Met l yX11_tellRow (WS yX11_tellRow cX11_tellRow 2 none) ({ frames := 3, cells := 0, slots := 0, locals := 66 } : Room) (va_Pc [.ref h0, .int p1] (fun U => U.heap.size = sz ∧ va_P (dC, dI) vwCl [(h0, .inr (14, oX11 (.ref h5) (.ref h6) (.ref h7) (.ref h1) v_outHasNumbers (.ref h3) (.ref h8) (.ref h9) (.ref h10) (.ref h11) (.ref h12) (.ref h13) (.ref h14) v_faultPlace v_latestFinding v_latestSteps v_openSlot v_openSubject)), (h1, .inr (10, oX7 (.ref h2) v_outRow_count v_outRow_over v_outRow_there)), (h2, .inl (k0, nv_outRow_items, .inl v_outRow_items)), (h3, .inr (10, oX7 (.ref h4) v_draft_count v_draft_over v_draft_there)), (h4, .inl (k1, nv_draft_items, .inl v_draft_items))] U.heap ∧ va_K (dC, dI) vwCl [(k0, .int), (k1, .int)] U ∧ va_D (fun _ => True) [(h0, .inr (14, oX11 (.ref h5) (.ref h6) (.ref h7) (.ref h1) v_outHasNumbers (.ref h3) (.ref h8) (.ref h9) (.ref h10) (.ref h11) (.ref h12) (.ref h13) (.ref h14) v_faultPlace v_latestFinding v_latestSteps v_openSlot v_openSubject)), (h1, .inr (10, oX7 (.ref h2) v_outRow_count v_outRow_over v_outRow_there)), (h2, .inl (k0, nv_outRow_items, .inl v_outRow_items)), (h3, .inr (10, oX7 (.ref h4) v_draft_count v_draft_over v_draft_there)), (h4, .inl (k1, nv_draft_items, .inl v_draft_items))])) (va_Qv (fun (u : Nat) => u = 0) (fun (_ : Nat) (t : State) => ∃ (ov_outHasNumbers : Bool), ∃ (ov_outRow_count : Int32), ∃ (ov_outRow_over : Bool), ∃ (ov_outRow_items : Nat → Int32), (Q ov_outHasNumbers ov_outRow_count ov_outRow_over ov_outRow_items) ∧ va_P (dC, dI) vwCl [(h0, .inr (14, oX11 (.ref h5) (.ref h6) (.ref h7) (.ref h1) ov_outHasNumbers (.ref h3) (.ref h8) (.ref h9) (.ref h10) (.ref h11) (.ref h12) (.ref h13) (.ref h14) v_faultPlace v_latestFinding v_latestSteps v_openSlot v_openSubject)), (h1, .inr (10, oX7 (.ref h2) ov_outRow_count ov_outRow_over v_outRow_there)), (h2, .inl (k0, nv_outRow_items, .inl ov_outRow_items)), (h3, .inr (10, oX7 (.ref h4) v_draft_count v_draft_over v_draft_there)), (h4, .inl (k1, nv_draft_items, .inl v_draft_items))] t.heap ∧ va_D (va_A [(h0, .inr (14, oX11 (.ref h5) (.ref h6) (.ref h7) (.ref h1) v_outHasNumbers (.ref h3) (.ref h8) (.ref h9) (.ref h10) (.ref h11) (.ref h12) (.ref h13) (.ref h14) v_faultPlace v_latestFinding v_latestSteps v_openSlot v_openSubject)), (h1, .inr (10, oX7 (.ref h2) v_outRow_count v_outRow_over v_outRow_there)), (h2, .inl (k0, nv_outRow_items, .inl v_outRow_items)), (h3, .inr (10, oX7 (.ref h4) v_draft_count v_draft_over v_draft_there)), (h4, .inl (k1, nv_draft_items, .inl v_draft_items))] sz) [(h0, .inr (14, oX11 (.ref h5) (.ref h6) (.ref h7) (.ref h1) ov_outHasNumbers (.ref h3) (.ref h8) (.ref h9) (.ref h10) (.ref h11) (.ref h12) (.ref h13) (.ref h14) v_faultPlace v_latestFinding v_latestSteps v_openSlot v_openSubject)), (h1, .inr (10, oX7 (.ref h2) ov_outRow_count ov_outRow_over v_outRow_there)), (h2, .inl (k0, nv_outRow_items, .inl ov_outRow_items)), (h3, .inr (10, oX7 (.ref h4) v_draft_count v_draft_over v_draft_there)), (h4, .inl (k1, nv_draft_items, .inl v_draft_items))]) (va_A [(h0, .inr (14, oX11 (.ref h5) (.ref h6) (.ref h7) (.ref h1) v_outHasNumbers (.ref h3) (.ref h8) (.ref h9) (.ref h10) (.ref h11) (.ref h12) (.ref h13) (.ref h14) v_faultPlace v_latestFinding v_latestSteps v_openSlot v_openSubject)), (h1, .inr (10, oX7 (.ref h2) v_outRow_count v_outRow_over v_outRow_there)), (h2, .inl (k0, nv_outRow_items, .inl v_outRow_items)), (h3, .inr (10, oX7 (.ref h4) v_draft_count v_draft_over v_draft_there)), (h4, .inl (k1, nv_draft_items, .inl v_draft_items))] sz)) 0 0 (va_A [(h0, .inr (14, oX11 (.ref h5) (.ref h6) (.ref h7) (.ref h1) v_outHasNumbers (.ref h3) (.ref h8) (.ref h9) (.ref h10) (.ref h11) (.ref h12) (.ref h13) (.ref h14) v_faultPlace v_latestFinding v_latestSteps v_openSlot v_openSubject)), (h1, .inr (10, oX7 (.ref h2) v_outRow_count v_outRow_over v_outRow_there)), (h2, .inl (k0, nv_outRow_items, .inl v_outRow_items)), (h3, .inr (10, oX7 (.ref h4) v_draft_count v_draft_over v_draft_there)), (h4, .inl (k1, nv_draft_items, .inl v_draft_items))] sz) := by
  refine Met.ofW (cc := cX11_tellRow) (maxL := 2) (ret := none) (by decide) rfl ?_
  intro p e s m args below meth c s₁ B hml hv
  obtain ⟨rfl, hsz, hP, hK, hD0⟩ := hv
  have hx := B.exec
  have hb := B.bytes
  have hr := B.returns
  have hts := atoms_spec (ws := WS yX11_tellRow cX11_tellRow 2 none) B.pre
  have ht : ∀ w ∈ TW, w.before _ s = true := fun w h => hts w (List.mem_cons_of_mem _ h)
  have hown : s.vm.findClass "PatternWorkshop" = some m.cls := findClass_of_methodNamed B.named
  have hlocks := B.notSynchronized
  subst hsz
  have hD := hD0.self (sz := s.heap.size)
  generalize hAe : va_A [(h0, .inr (14, oX11 (.ref h5) (.ref h6) (.ref h7) (.ref h1) v_outHasNumbers (.ref h3) (.ref h8) (.ref h9) (.ref h10) (.ref h11) (.ref h12) (.ref h13) (.ref h14) v_faultPlace v_latestFinding v_latestSteps v_openSlot v_openSubject)), (h1, .inr (10, oX7 (.ref h2) v_outRow_count v_outRow_over v_outRow_there)), (h2, .inl (k0, nv_outRow_items, .inl v_outRow_items)), (h3, .inr (10, oX7 (.ref h4) v_draft_count v_draft_over v_draft_there)), (h4, .inl (k1, nv_draft_items, .inl v_draft_items))] s.heap.size = A at hD ⊢
  have hA : ∀ q : Nat, s.heap.size ≤ q → A q := fun q h => by rw [← hAe]; exact Or.inr h
  have hS : va_S A s.heap s.heap [] := va_S.rf
  have hP : va_P (dC, dI) vwCl [(h0, .inr (14, oX11 (.ref h5) (.ref h6) (.ref h7) (.ref h1) v_outHasNumbers (.ref h3) (.ref h8) (.ref h9) (.ref h10) (.ref h11) (.ref h12) (.ref h13) (.ref h14) v_faultPlace v_latestFinding v_latestSteps v_openSlot v_openSubject)), (h1, .inr (10, oX7 (.ref h2) v_outRow_count v_outRow_over v_outRow_there)), (h2, .inl (k0, nv_outRow_items, .inl v_outRow_items)), (h3, .inr (10, oX7 (.ref h4) v_draft_count v_draft_over v_draft_there)), (h4, .inl (k1, nv_draft_items, .inl v_draft_items))] s.heap := hP
  have hl := lv_entry ([.ref h0, .int p1]) (n := 2) (Nat.le_of_ble_eq_true rfl)
  rw [lg_entry_eq]
  generalize (lg_sl ([.ref h0, .int p1]) ++ List.replicate (2 - (lg_sl ([.ref h0, .int p1])).length) Slot.unset).toArray = ls at hl ⊢
  have hl : lv_has ls 2 [(0, .ref h0), (1, .int p1)] := hl
  clear hD0
  obtain ⟨QQ, hQQ⟩ : ∃ QQ, QQ = MQ below (va_Qv (fun (u : Nat) => u = 0) (fun (_ : Nat) (t : State) => ∃ (ov_outHasNumbers : Bool), ∃ (ov_outRow_count : Int32), ∃ (ov_outRow_over : Bool), ∃ (ov_outRow_items : Nat → Int32), (Q ov_outHasNumbers ov_outRow_count ov_outRow_over ov_outRow_items) ∧ va_P (dC, dI) vwCl [(h0, .inr (14, oX11 (.ref h5) (.ref h6) (.ref h7) (.ref h1) ov_outHasNumbers (.ref h3) (.ref h8) (.ref h9) (.ref h10) (.ref h11) (.ref h12) (.ref h13) (.ref h14) v_faultPlace v_latestFinding v_latestSteps v_openSlot v_openSubject)), (h1, .inr (10, oX7 (.ref h2) ov_outRow_count ov_outRow_over v_outRow_there)), (h2, .inl (k0, nv_outRow_items, .inl ov_outRow_items)), (h3, .inr (10, oX7 (.ref h4) v_draft_count v_draft_over v_draft_there)), (h4, .inl (k1, nv_draft_items, .inl v_draft_items))] t.heap ∧ va_D A [(h0, .inr (14, oX11 (.ref h5) (.ref h6) (.ref h7) (.ref h1) ov_outHasNumbers (.ref h3) (.ref h8) (.ref h9) (.ref h10) (.ref h11) (.ref h12) (.ref h13) (.ref h14) v_faultPlace v_latestFinding v_latestSteps v_openSlot v_openSubject)), (h1, .inr (10, oX7 (.ref h2) ov_outRow_count ov_outRow_over v_outRow_there)), (h2, .inl (k0, nv_outRow_items, .inl ov_outRow_items)), (h3, .inr (10, oX7 (.ref h4) v_draft_count v_draft_over v_draft_there)), (h4, .inl (k1, nv_draft_items, .inl v_draft_items))]) A) ([.ref h0, .int p1]).toArray s 0 0 A := ⟨_, rfl⟩
  show W p l e ({ frames := 3, cells := 0, slots := 0, locals := 66 } : Room) s m ([.ref h0, .int p1]).toArray below meth c s.heap [] 0 0 (MQ below (va_Qv (fun (u : Nat) => u = 0) (fun (_ : Nat) (t : State) => ∃ (ov_outHasNumbers : Bool), ∃ (ov_outRow_count : Int32), ∃ (ov_outRow_over : Bool), ∃ (ov_outRow_items : Nat → Int32), (Q ov_outHasNumbers ov_outRow_count ov_outRow_over ov_outRow_items) ∧ va_P (dC, dI) vwCl [(h0, .inr (14, oX11 (.ref h5) (.ref h6) (.ref h7) (.ref h1) ov_outHasNumbers (.ref h3) (.ref h8) (.ref h9) (.ref h10) (.ref h11) (.ref h12) (.ref h13) (.ref h14) v_faultPlace v_latestFinding v_latestSteps v_openSlot v_openSubject)), (h1, .inr (10, oX7 (.ref h2) ov_outRow_count ov_outRow_over v_outRow_there)), (h2, .inl (k0, nv_outRow_items, .inl ov_outRow_items)), (h3, .inr (10, oX7 (.ref h4) v_draft_count v_draft_over v_draft_there)), (h4, .inl (k1, nv_draft_items, .inl v_draft_items))] t.heap ∧ va_D A [(h0, .inr (14, oX11 (.ref h5) (.ref h6) (.ref h7) (.ref h1) ov_outHasNumbers (.ref h3) (.ref h8) (.ref h9) (.ref h10) (.ref h11) (.ref h12) (.ref h13) (.ref h14) v_faultPlace v_latestFinding v_latestSteps v_openSlot v_openSubject)), (h1, .inr (10, oX7 (.ref h2) ov_outRow_count ov_outRow_over v_outRow_there)), (h2, .inl (k0, nv_outRow_items, .inl ov_outRow_items)), (h3, .inr (10, oX7 (.ref h4) v_draft_count v_draft_over v_draft_there)), (h4, .inl (k1, nv_draft_items, .inl v_draft_items))]) A) ([.ref h0, .int p1]).toArray s 0 0 A) (F0 m 0 ls [])
  rw [← hQQ]
  unfold w_X11_tellRow at w
  refine lv_aload_n hx hb dX11_tellRow_0 rfl (lv_at hl 0 rfl) ?_
  refine va_get (D := (dC, dI)) (ci := 14) (v := .ref h1) (C := RX11) (T := TX11) (N := 18) hx hb ht inX11 hown hK hP 0 rfl rfl 3 (by decide) (ht _ tw_803) (fun _ h9 => h9) rfl dX11_tellRow_1 ?_
  refine lv_aload_n hx hb dX11_tellRow_4 rfl (lv_at hl 0 rfl) ?_
  refine va_get (D := (dC, dI)) (ci := 14) (v := .ref h3) (C := RX11) (T := TX11) (N := 18) hx hb ht inX11 hown hK hP 0 rfl rfl 5 (by decide) (ht _ tw_805) (fun _ h9 => h9) rfl dX11_tellRow_5 ?_
  have hPc_1 := hP.sub (ws' := [(h3, .inr (10, oX7 (.ref h4) v_draft_count v_draft_over v_draft_there)), (h4, .inl (k1, nv_draft_items, .inl v_draft_items)), (h1, .inr (10, oX7 (.ref h2) v_outRow_count v_outRow_over v_outRow_there)), (h2, .inl (k0, nv_outRow_items, .inl v_outRow_items))]) [3, 4, 1, 2] rfl
  have hDc_1 := hD.sub (ws' := [(h3, .inr (10, oX7 (.ref h4) v_draft_count v_draft_over v_draft_there)), (h4, .inl (k1, nv_draft_items, .inl v_draft_items)), (h1, .inr (10, oX7 (.ref h2) v_outRow_count v_outRow_over v_outRow_there)), (h2, .inl (k0, nv_outRow_items, .inl v_outRow_items))]) [3, 4, 1, 2] (by decide) rfl
  have hKc_1 := hK.sub (tys' := [(k1, .int), (k0, .int)]) [1, 0] rfl
  have hFc_1 := va_free (wc := [(h3, .inr (10, oX7 (.ref h4) v_draft_count v_draft_over v_draft_there)), (h4, .inl (k1, nv_draft_items, .inl v_draft_items)), (h1, .inr (10, oX7 (.ref h2) v_outRow_count v_outRow_over v_outRow_there)), (h2, .inl (k0, nv_outRow_items, .inl v_outRow_items))]) hD hS hA [3, 4, 1, 2] rfl
  refine va_callv (va_runV (As := [.ref h3]) (rest := []) ⟨hx, hb, hml, hown, ht⟩ (mt_X7_take l dC dI h1 h3 h4 h2 k1 k0 v_draft_count v_draft_over v_draft_there v_draft_items nv_draft_items v_outRow_count v_outRow_over v_outRow_there v_outRow_items nv_outRow_items _ w s.heap.size) (cwV 1 ht (goodV tw_1272 tw_1273 tw_1274 tw_237 gw_X7_take) rfl rfl rfl (by decide +kernel) ⟨Nat.le_of_ble_eq_true rfl, Nat.le_of_ble_eq_true rfl⟩) ⟨fun a U g mk q => by obtain ⟨q0, q1, qP, qK, qD⟩ := q; exact ⟨q0, q1, qP, va_K.moved (u := U) (U := U.calling g mk a) (Vm.Alike.refl U.vm) qK, qD⟩, va_recv hKc_1 hPc_1 (ci := 10) (q0 := 2) rfl rfl, fun U hU hW => ⟨rfl, by rw [hU], by rw [hU]; exact hPc_1, va_K.moved hW.alike hKc_1, hDc_1.weaken (fun _ _ _ _ => trivial)⟩⟩ rfl rfl hl.1 rfl (lv_room (Nat.le_of_ble_eq_true rfl)) dX11_tellRow_8 ⟨Nat.le_of_ble_eq_true rfl, Nat.le_of_ble_eq_true rfl⟩) hS (fun q _ h => hFc_1 q h) hFc_1 (fun u_1 t_1 H_1 locs_1 ht_1 hvm_1 hw_1 hB_1 hz_1 hk_1 hS_1 => ?_)
  subst hw_1
  obtain ⟨r_1_0, r_1_1, r_1_2, w_1, hP1_1, hD1_1⟩ := hB_1
  rw [ht_1] at hP1_1
  obtain ⟨hP_1, hD_1⟩ := va_join (wr := [(h0, .inr (14, oX11 (.ref h5) (.ref h6) (.ref h7) (.ref h1) v_outHasNumbers (.ref h3) (.ref h8) (.ref h9) (.ref h10) (.ref h11) (.ref h12) (.ref h13) (.ref h14) v_faultPlace v_latestFinding v_latestSteps v_openSlot v_openSubject))]) (w1 := [(h3, .inr (10, oX7 (.ref h4) v_draft_count v_draft_over v_draft_there)), (h4, .inl (k1, nv_draft_items, .inl v_draft_items)), (h1, .inr (10, oX7 (.ref h2) r_1_0 r_1_1 v_outRow_there)), (h2, .inl (k0, nv_outRow_items, .inl r_1_2))]) hP hD [3, 4, 1, 2] [0] rfl rfl (by decide) (by decide) hk_1 hFc_1 hP1_1 hD1_1
  have hP_1 := hP_1.sub (ws' := [(h0, .inr (14, oX11 (.ref h5) (.ref h6) (.ref h7) (.ref h1) v_outHasNumbers (.ref h3) (.ref h8) (.ref h9) (.ref h10) (.ref h11) (.ref h12) (.ref h13) (.ref h14) v_faultPlace v_latestFinding v_latestSteps v_openSlot v_openSubject)), (h1, .inr (10, oX7 (.ref h2) r_1_0 r_1_1 v_outRow_there)), (h2, .inl (k0, nv_outRow_items, .inl r_1_2)), (h3, .inr (10, oX7 (.ref h4) v_draft_count v_draft_over v_draft_there)), (h4, .inl (k1, nv_draft_items, .inl v_draft_items))]) [0, 3, 4, 1, 2] rfl
  have hD_1 := hD_1.sub (ws' := [(h0, .inr (14, oX11 (.ref h5) (.ref h6) (.ref h7) (.ref h1) v_outHasNumbers (.ref h3) (.ref h8) (.ref h9) (.ref h10) (.ref h11) (.ref h12) (.ref h13) (.ref h14) v_faultPlace v_latestFinding v_latestSteps v_openSlot v_openSubject)), (h1, .inr (10, oX7 (.ref h2) r_1_0 r_1_1 v_outRow_there)), (h2, .inl (k0, nv_outRow_items, .inl r_1_2)), (h3, .inr (10, oX7 (.ref h4) v_draft_count v_draft_over v_draft_there)), (h4, .inl (k1, nv_draft_items, .inl v_draft_items))]) [0, 3, 4, 1, 2] (by decide) rfl
  clear hPc_1 hDc_1 hKc_1 hFc_1 hP1_1 hD1_1 hk_1 hz_1
  refine lv_aload_n hx hb dX11_tellRow_11 rfl (lv_at hl 0 rfl) ?_
  refine lv_iload_n hx hb dX11_tellRow_12 rfl (lv_at hl 1 rfl) ?_
  obtain ⟨b_2, eb_2⟩ := bz_ex w_1.1
  refine W.eq (g2 := F0 m 13 ls [.int (bz b_2), .ref h0]) (by rw [eb_2]) ?_
  refine va_put (D := (dC, dI)) (ci := 14) (v := .int (bz b_2)) (ty := .boolean) (C := RX11) (T := TX11) (N := 18) hx hb ht inX11 tyX11 tyX11_ok nmX11 hown hK hP_1 hD_1 hS_1 0 rfl rfl 4 (by decide) (ht _ tw_804) (fun _ h9 => h9) rfl (by decide +kernel) (bz_nar _) (bz_fit _) (Nat.le_of_ble_eq_true rfl) dX11_tellRow_13 (fun H_2 locs_2 hP_2 hD_2 hS_2 => ?_)
  have hP_2 : va_P (dC, dI) vwCl [(h0, .inr (14, oX11 (.ref h5) (.ref h6) (.ref h7) (.ref h1) b_2 (.ref h3) (.ref h8) (.ref h9) (.ref h10) (.ref h11) (.ref h12) (.ref h13) (.ref h14) v_faultPlace v_latestFinding v_latestSteps v_openSlot v_openSubject)), (h1, .inr (10, oX7 (.ref h2) r_1_0 r_1_1 v_outRow_there)), (h2, .inl (k0, nv_outRow_items, .inl r_1_2)), (h3, .inr (10, oX7 (.ref h4) v_draft_count v_draft_over v_draft_there)), (h4, .inl (k1, nv_draft_items, .inl v_draft_items))] H_2 := hP_2
  have hD_2 : va_D A [(h0, .inr (14, oX11 (.ref h5) (.ref h6) (.ref h7) (.ref h1) b_2 (.ref h3) (.ref h8) (.ref h9) (.ref h10) (.ref h11) (.ref h12) (.ref h13) (.ref h14) v_faultPlace v_latestFinding v_latestSteps v_openSlot v_openSubject)), (h1, .inr (10, oX7 (.ref h2) r_1_0 r_1_1 v_outRow_there)), (h2, .inl (k0, nv_outRow_items, .inl r_1_2)), (h3, .inr (10, oX7 (.ref h4) v_draft_count v_draft_over v_draft_there)), (h4, .inl (k1, nv_draft_items, .inl v_draft_items))] := hD_2
  rw [hQQ]
  exact W.vret hx hb hr (fun t9 ht9 hW9 => ⟨⟨0, rfl, rfl, ⟨b_2, r_1_0, r_1_1, r_1_2, w_1.2 b_2 eb_2, by rw [ht9]; exact hP_2, hD_2⟩⟩, hS_2.F ht9⟩) hS_2.2.2 dX11_tellRow_16
def w_X11_isStepCount_17 (Q : Int32 → Prop) (s0_17 : Int32) : Prop :=
  (s0_17 = 0 ∨ s0_17 = 1) ∧ Q s0_17
def w_X11_isStepCount_16 (Q : Int32 → Prop) : Prop :=
  w_X11_isStepCount_17 Q 0
def w_X11_isStepCount (p0 : Int32) (Q : Int32 → Prop) : Prop :=
  ((p0 < 1) → w_X11_isStepCount_16 Q) ∧ ((¬ p0 < 1) → ((3000 < p0) → w_X11_isStepCount_16 Q) ∧ ((¬ 3000 < p0) → w_X11_isStepCount_17 Q 1))
set_option maxHeartbeats 4000000 in
set_option maxRecDepth 100000 in
theorem mt_X11_isStepCount (l : Launch) (dC : Nat → ClassId) (dI : Nat → Nat → Nat) (p0 : Int32) (Q : Int32 → Prop) (w : w_X11_isStepCount p0 Q) (sz : Nat) : Met l yX11_isStepCount (WS yX11_isStepCount cX11_isStepCount 1 (some (.boolean))) ({ frames := 0, cells := 0, slots := 0, locals := 0 } : Room) (va_Pc [.int p0] (fun U => U.heap.size = sz ∧ va_P (dC, dI) vwCl [] U.heap ∧ va_K (dC, dI) vwCl [] U ∧ va_D (fun _ => True) [])) (va_Qi (fun (r u : Int32) => r = u) (fun (u : Int32) (t : State) => (Q u) ∧ va_P (dC, dI) vwCl [] t.heap ∧ va_D (va_A [] sz) []) (va_A [] sz)) 0 0 (va_A [] sz) := by
  refine Met.ofW (cc := cX11_isStepCount) (maxL := 1) (ret := (some (.boolean))) (by decide) rfl ?_
  intro p e s m args below meth c s₁ B hml hv
  obtain ⟨rfl, hsz, hP, hK, hD0⟩ := hv
  have hx := B.exec
  have hb := B.bytes
  have hr := B.returns
  have hts := atoms_spec (ws := WS yX11_isStepCount cX11_isStepCount 1 (some (.boolean))) B.pre
  have ht : ∀ w ∈ TW, w.before _ s = true := fun w h => hts w (List.mem_cons_of_mem _ h)
  have hown : s.vm.findClass "PatternWorkshop" = some m.cls := findClass_of_methodNamed B.named
  have hlocks := B.notSynchronized
  subst hsz
  have hD := hD0.self (sz := s.heap.size)
  generalize hAe : va_A [] s.heap.size = A at hD ⊢
  have hA : ∀ q : Nat, s.heap.size ≤ q → A q := fun q h => by rw [← hAe]; exact Or.inr h
  have hS : va_S A s.heap s.heap [] := va_S.rf
  have hP : va_P (dC, dI) vwCl [] s.heap := hP
  have hl := lv_entry ([.int p0]) (n := 1) (Nat.le_of_ble_eq_true rfl)
  rw [lg_entry_eq]
  generalize (lg_sl ([.int p0]) ++ List.replicate (1 - (lg_sl ([.int p0])).length) Slot.unset).toArray = ls at hl ⊢
  have hl : lv_has ls 1 [(0, .int p0)] := hl
  clear hD0
  obtain ⟨QQ, hQQ⟩ : ∃ QQ, QQ = MQ below (va_Qi (fun (r u : Int32) => r = u) (fun (u : Int32) (t : State) => (Q u) ∧ va_P (dC, dI) vwCl [] t.heap ∧ va_D A []) A) ([.int p0]).toArray s 0 0 A := ⟨_, rfl⟩
  show W p l e ({ frames := 0, cells := 0, slots := 0, locals := 0 } : Room) s m ([.int p0]).toArray below meth c s.heap [] 0 0 (MQ below (va_Qi (fun (r u : Int32) => r = u) (fun (u : Int32) (t : State) => (Q u) ∧ va_P (dC, dI) vwCl [] t.heap ∧ va_D A []) A) ([.int p0]).toArray s 0 0 A) (F0 m 0 ls [])
  rw [← hQQ]
  unfold w_X11_isStepCount at w
  refine lv_iload_n hx hb dX11_isStepCount_0 rfl (lv_at hl 0 rfl) ?_
  refine lv_iconst (v := 1) hx hb dX11_isStepCount_1 (by decide) ?_
  have k_17 : ∀ (s0_17 : Int32), ∀ (H_b17 : Heap) (locs_b17 : List Loc) (ls_b17 : Array Slot), w_X11_isStepCount_17 Q s0_17 → va_P (dC, dI) vwCl [] H_b17 → va_D A [] → va_S A s.heap H_b17 locs_b17 → lv_has ls_b17 1 [] → W p l e ({ frames := 0, cells := 0, slots := 0, locals := 0 } : Room) s m ([.int p0]).toArray below meth c H_b17 locs_b17 0 0 QQ (F0 m 17 ls_b17 [.int s0_17]) := by
    intro s0_17 H_b17 locs_b17 ls_b17 w_b17 hP_b17 hD_b17 hS_b17 hl_b17
    unfold w_X11_isStepCount_17 at w_b17
    rw [hQQ]
    exact W.zret (v := s0_17) hx hb hr (or_nar w_b17.1) (fun t9 ht9 hW9 => ⟨⟨s0_17, s0_17, rfl, rfl, ⟨w_b17.2, by rw [ht9]; exact hP_b17, hD_b17⟩⟩, hS_b17.F ht9⟩) hS_b17.2.2 dX11_isStepCount_17
  have k_16 : ∀ (H_b16 : Heap) (locs_b16 : List Loc) (ls_b16 : Array Slot), w_X11_isStepCount_16 Q → va_P (dC, dI) vwCl [] H_b16 → va_D A [] → va_S A s.heap H_b16 locs_b16 → lv_has ls_b16 1 [] → W p l e ({ frames := 0, cells := 0, slots := 0, locals := 0 } : Room) s m ([.int p0]).toArray below meth c H_b16 locs_b16 0 0 QQ (F0 m 16 ls_b16 []) := by
    intro  H_b16 locs_b16 ls_b16 w_b16 hP_b16 hD_b16 hS_b16 hl_b16
    unfold w_X11_isStepCount_16 at w_b16
    refine lv_iconst (v := 0) hx hb dX11_isStepCount_16 (by decide) ?_
    exact k_17 0 _ _ _ w_b16 hP_b16 hD_b16 hS_b16 (lv_sub hl_b16 [] rfl)
  refine lv_icmp_lt (tgt := 16) hx hb dX11_isStepCount_2 (by decide) (fun c_1 => ?_) (fun c_1 => ?_)
  · exact k_16  _ _ _ (w.1 c_1) hP hD hS (lv_sub hl [] rfl)
  · refine lv_iload_n hx hb dX11_isStepCount_5 rfl (lv_at hl 0 rfl) ?_
    refine lv_sipush (v := 3000) hx hb dX11_isStepCount_6 (by decide) ?_
    refine lv_icmp_gt (tgt := 16) hx hb dX11_isStepCount_9 (by decide) (fun c_2 => ?_) (fun c_2 => ?_)
    · exact k_16  _ _ _ ((w.2 c_1).1 c_2) hP hD hS (lv_sub hl [] rfl)
    · refine lv_iconst (v := 1) hx hb dX11_isStepCount_12 (by decide) ?_
      refine lv_goto (tgt := 17) hx hb dX11_isStepCount_13 (by decide) ?_
      exact k_17 1 _ _ _ ((w.2 c_1).2 c_2) hP hD hS (lv_sub hl [] rfl)
def w_X11_refusalOfSubject (p1 : Int32) (v_latestFinding : Int32) (Q : Int32 → Int32 → Prop) : Prop :=
  w_X11_isSubject p1 (fun r_1 => ((¬ r_1 = 0) → Q (-3) 2) ∧ ((r_1 = 0) → Q (-2) v_latestFinding))
set_option maxHeartbeats 4000000 in
set_option maxRecDepth 100000 in
theorem mt_X11_refusalOfSubject (l : Launch) (dC : Nat → ClassId) (dI : Nat → Nat → Nat) (h0 h1 h2 h3 h4 h5 h6 h7 h8 h9 h10 h11 h12 : Nat) (p1 : Int32) (v_outHasNumbers : Bool) (v_faultPlace : Int32) (v_latestFinding : Int32) (v_latestSteps : Int32) (v_openSlot : Int32) (v_openSubject : Int32) (Q : Int32 → Int32 → Prop) (w : w_X11_refusalOfSubject p1 v_latestFinding Q) (sz : Nat) : Met l yX11_refusalOfSubject (WS yX11_refusalOfSubject cX11_refusalOfSubject 2 (some (.int))) ({ frames := 1, cells := 0, slots := 0, locals := 20 } : Room) (va_Pc [.ref h0, .int p1] (fun U => U.heap.size = sz ∧ va_P (dC, dI) vwCl [(h0, .inr (14, oX11 (.ref h1) (.ref h2) (.ref h3) (.ref h4) v_outHasNumbers (.ref h5) (.ref h6) (.ref h7) (.ref h8) (.ref h9) (.ref h10) (.ref h11) (.ref h12) v_faultPlace v_latestFinding v_latestSteps v_openSlot v_openSubject))] U.heap ∧ va_K (dC, dI) vwCl [] U ∧ va_D (fun _ => True) [(h0, .inr (14, oX11 (.ref h1) (.ref h2) (.ref h3) (.ref h4) v_outHasNumbers (.ref h5) (.ref h6) (.ref h7) (.ref h8) (.ref h9) (.ref h10) (.ref h11) (.ref h12) v_faultPlace v_latestFinding v_latestSteps v_openSlot v_openSubject))])) (va_Qi (fun (r u : Int32) => r = u) (fun (u : Int32) (t : State) => ∃ (ov_latestFinding : Int32), (Q u ov_latestFinding) ∧ va_P (dC, dI) vwCl [(h0, .inr (14, oX11 (.ref h1) (.ref h2) (.ref h3) (.ref h4) v_outHasNumbers (.ref h5) (.ref h6) (.ref h7) (.ref h8) (.ref h9) (.ref h10) (.ref h11) (.ref h12) v_faultPlace ov_latestFinding v_latestSteps v_openSlot v_openSubject))] t.heap ∧ va_D (va_A [(h0, .inr (14, oX11 (.ref h1) (.ref h2) (.ref h3) (.ref h4) v_outHasNumbers (.ref h5) (.ref h6) (.ref h7) (.ref h8) (.ref h9) (.ref h10) (.ref h11) (.ref h12) v_faultPlace v_latestFinding v_latestSteps v_openSlot v_openSubject))] sz) [(h0, .inr (14, oX11 (.ref h1) (.ref h2) (.ref h3) (.ref h4) v_outHasNumbers (.ref h5) (.ref h6) (.ref h7) (.ref h8) (.ref h9) (.ref h10) (.ref h11) (.ref h12) v_faultPlace ov_latestFinding v_latestSteps v_openSlot v_openSubject))]) (va_A [(h0, .inr (14, oX11 (.ref h1) (.ref h2) (.ref h3) (.ref h4) v_outHasNumbers (.ref h5) (.ref h6) (.ref h7) (.ref h8) (.ref h9) (.ref h10) (.ref h11) (.ref h12) v_faultPlace v_latestFinding v_latestSteps v_openSlot v_openSubject))] sz)) 0 0 (va_A [(h0, .inr (14, oX11 (.ref h1) (.ref h2) (.ref h3) (.ref h4) v_outHasNumbers (.ref h5) (.ref h6) (.ref h7) (.ref h8) (.ref h9) (.ref h10) (.ref h11) (.ref h12) v_faultPlace v_latestFinding v_latestSteps v_openSlot v_openSubject))] sz) := by
  refine Met.ofW (cc := cX11_refusalOfSubject) (maxL := 2) (ret := (some (.int))) (by decide) rfl ?_
  intro p e s m args below meth c s₁ B hml hv
  obtain ⟨rfl, hsz, hP, hK, hD0⟩ := hv
  have hx := B.exec
  have hb := B.bytes
  have hr := B.returns
  have hts := atoms_spec (ws := WS yX11_refusalOfSubject cX11_refusalOfSubject 2 (some (.int))) B.pre
  have ht : ∀ w ∈ TW, w.before _ s = true := fun w h => hts w (List.mem_cons_of_mem _ h)
  have hown : s.vm.findClass "PatternWorkshop" = some m.cls := findClass_of_methodNamed B.named
  have hlocks := B.notSynchronized
  subst hsz
  have hD := hD0.self (sz := s.heap.size)
  generalize hAe : va_A [(h0, .inr (14, oX11 (.ref h1) (.ref h2) (.ref h3) (.ref h4) v_outHasNumbers (.ref h5) (.ref h6) (.ref h7) (.ref h8) (.ref h9) (.ref h10) (.ref h11) (.ref h12) v_faultPlace v_latestFinding v_latestSteps v_openSlot v_openSubject))] s.heap.size = A at hD ⊢
  have hA : ∀ q : Nat, s.heap.size ≤ q → A q := fun q h => by rw [← hAe]; exact Or.inr h
  have hS : va_S A s.heap s.heap [] := va_S.rf
  have hP : va_P (dC, dI) vwCl [(h0, .inr (14, oX11 (.ref h1) (.ref h2) (.ref h3) (.ref h4) v_outHasNumbers (.ref h5) (.ref h6) (.ref h7) (.ref h8) (.ref h9) (.ref h10) (.ref h11) (.ref h12) v_faultPlace v_latestFinding v_latestSteps v_openSlot v_openSubject))] s.heap := hP
  have hl := lv_entry ([.ref h0, .int p1]) (n := 2) (Nat.le_of_ble_eq_true rfl)
  rw [lg_entry_eq]
  generalize (lg_sl ([.ref h0, .int p1]) ++ List.replicate (2 - (lg_sl ([.ref h0, .int p1])).length) Slot.unset).toArray = ls at hl ⊢
  have hl : lv_has ls 2 [(0, .ref h0), (1, .int p1)] := hl
  clear hD0
  obtain ⟨QQ, hQQ⟩ : ∃ QQ, QQ = MQ below (va_Qi (fun (r u : Int32) => r = u) (fun (u : Int32) (t : State) => ∃ (ov_latestFinding : Int32), (Q u ov_latestFinding) ∧ va_P (dC, dI) vwCl [(h0, .inr (14, oX11 (.ref h1) (.ref h2) (.ref h3) (.ref h4) v_outHasNumbers (.ref h5) (.ref h6) (.ref h7) (.ref h8) (.ref h9) (.ref h10) (.ref h11) (.ref h12) v_faultPlace ov_latestFinding v_latestSteps v_openSlot v_openSubject))] t.heap ∧ va_D A [(h0, .inr (14, oX11 (.ref h1) (.ref h2) (.ref h3) (.ref h4) v_outHasNumbers (.ref h5) (.ref h6) (.ref h7) (.ref h8) (.ref h9) (.ref h10) (.ref h11) (.ref h12) v_faultPlace ov_latestFinding v_latestSteps v_openSlot v_openSubject))]) A) ([.ref h0, .int p1]).toArray s 0 0 A := ⟨_, rfl⟩
  show W p l e ({ frames := 1, cells := 0, slots := 0, locals := 20 } : Room) s m ([.ref h0, .int p1]).toArray below meth c s.heap [] 0 0 (MQ below (va_Qi (fun (r u : Int32) => r = u) (fun (u : Int32) (t : State) => ∃ (ov_latestFinding : Int32), (Q u ov_latestFinding) ∧ va_P (dC, dI) vwCl [(h0, .inr (14, oX11 (.ref h1) (.ref h2) (.ref h3) (.ref h4) v_outHasNumbers (.ref h5) (.ref h6) (.ref h7) (.ref h8) (.ref h9) (.ref h10) (.ref h11) (.ref h12) v_faultPlace ov_latestFinding v_latestSteps v_openSlot v_openSubject))] t.heap ∧ va_D A [(h0, .inr (14, oX11 (.ref h1) (.ref h2) (.ref h3) (.ref h4) v_outHasNumbers (.ref h5) (.ref h6) (.ref h7) (.ref h8) (.ref h9) (.ref h10) (.ref h11) (.ref h12) v_faultPlace ov_latestFinding v_latestSteps v_openSlot v_openSubject))]) A) ([.ref h0, .int p1]).toArray s 0 0 A) (F0 m 0 ls [])
  rw [← hQQ]
  unfold w_X11_refusalOfSubject at w
  refine lv_iload_n hx hb dX11_refusalOfSubject_0 rfl (lv_at hl 1 rfl) ?_
  have hPc_1 := hP.sub (ws' := []) [] rfl
  have hDc_1 := hD.sub (ws' := []) [] (by decide) rfl
  have hKc_1 := hK.sub (tys' := []) [] rfl
  have hFc_1 := va_free (wc := []) hD hS hA [] rfl
  refine va_calli (va_runS (As := [.int p1]) (rest := []) ⟨hx, hb, hml, hown, ht⟩ (mt_X11_isSubject l dC dI p1 _ w s.heap.size) (cwS 1 ht (goodS tw_1411 tw_1412 tw_236 gw_X11_isSubject) rfl rfl rfl (by decide +kernel) ⟨Nat.le_of_ble_eq_true rfl, Nat.le_of_ble_eq_true rfl⟩) ⟨fun a U g mk q => by obtain ⟨q0, q1, qP, qK, qD⟩ := q; exact ⟨q0, q1, qP, va_K.moved (u := U) (U := U.calling g mk a) (Vm.Alike.refl U.vm) qK, qD⟩, fun U hU hW => ⟨rfl, by rw [hU], by rw [hU]; exact hPc_1, va_K.moved hW.alike hKc_1, hDc_1.weaken (fun _ _ _ _ => trivial)⟩⟩ rfl rfl hl.1 rfl (lv_room (Nat.le_of_ble_eq_true rfl)) dX11_refusalOfSubject_1 ⟨Nat.le_of_ble_eq_true rfl, Nat.le_of_ble_eq_true rfl⟩) hS (fun q _ h => hFc_1 q h) hFc_1 (fun r_1 u_1 t_1 H_1 locs_1 ht_1 hvm_1 hw_1 hB_1 hz_1 hk_1 hS_1 => ?_)
  subst hw_1
  obtain ⟨w_1, hP1_1, hD1_1⟩ := hB_1
  rw [ht_1] at hP1_1
  obtain ⟨hP_1, hD_1⟩ := va_join (wr := [(h0, .inr (14, oX11 (.ref h1) (.ref h2) (.ref h3) (.ref h4) v_outHasNumbers (.ref h5) (.ref h6) (.ref h7) (.ref h8) (.ref h9) (.ref h10) (.ref h11) (.ref h12) v_faultPlace v_latestFinding v_latestSteps v_openSlot v_openSubject))]) (w1 := []) hP hD [] [0] rfl rfl (by decide) (by decide) hk_1 hFc_1 hP1_1 hD1_1
  have hP_1 := hP_1.sub (ws' := [(h0, .inr (14, oX11 (.ref h1) (.ref h2) (.ref h3) (.ref h4) v_outHasNumbers (.ref h5) (.ref h6) (.ref h7) (.ref h8) (.ref h9) (.ref h10) (.ref h11) (.ref h12) v_faultPlace v_latestFinding v_latestSteps v_openSlot v_openSubject))]) [0] rfl
  have hD_1 := hD_1.sub (ws' := [(h0, .inr (14, oX11 (.ref h1) (.ref h2) (.ref h3) (.ref h4) v_outHasNumbers (.ref h5) (.ref h6) (.ref h7) (.ref h8) (.ref h9) (.ref h10) (.ref h11) (.ref h12) v_faultPlace v_latestFinding v_latestSteps v_openSlot v_openSubject))]) [0] (by decide) rfl
  clear hPc_1 hDc_1 hKc_1 hFc_1 hP1_1 hD1_1 hk_1 hz_1
  refine lv_if_ne (tgt := 10) hx hb dX11_refusalOfSubject_4 (by decide) (fun c_2 => ?_) (fun c_2 => ?_)
  · refine lv_aload_n hx hb dX11_refusalOfSubject_10 rfl (lv_at hl 0 rfl) ?_
    refine lv_iconst (v := 2) hx hb dX11_refusalOfSubject_11 (by decide) ?_
    refine va_put (D := (dC, dI)) (ci := 14) (v := .int 2) (ty := .int) (C := RX11) (T := TX11) (N := 18) hx hb ht inX11 tyX11 tyX11_ok nmX11 hown hK hP_1 hD_1 hS_1 0 rfl rfl 14 (by decide) (ht _ tw_814) (fun _ h9 => h9) rfl (by decide +kernel) rfl rfl (Nat.le_of_ble_eq_true rfl) dX11_refusalOfSubject_12 (fun H_3 locs_3 hP_3 hD_3 hS_3 => ?_)
    have hP_3 : va_P (dC, dI) vwCl [(h0, .inr (14, oX11 (.ref h1) (.ref h2) (.ref h3) (.ref h4) v_outHasNumbers (.ref h5) (.ref h6) (.ref h7) (.ref h8) (.ref h9) (.ref h10) (.ref h11) (.ref h12) v_faultPlace 2 v_latestSteps v_openSlot v_openSubject))] H_3 := hP_3
    have hD_3 : va_D A [(h0, .inr (14, oX11 (.ref h1) (.ref h2) (.ref h3) (.ref h4) v_outHasNumbers (.ref h5) (.ref h6) (.ref h7) (.ref h8) (.ref h9) (.ref h10) (.ref h11) (.ref h12) v_faultPlace 2 v_latestSteps v_openSlot v_openSubject))] := hD_3
    refine lv_bipush (v := (-3)) hx hb dX11_refusalOfSubject_15 (by decide) ?_
    rw [hQQ]
    exact W.iret (v := (-3)) hx hb hr (fun t9 ht9 hW9 => ⟨⟨(-3), (-3), rfl, rfl, ⟨2, w_1.1 c_2, by rw [ht9]; exact hP_3, hD_3⟩⟩, hS_3.F ht9⟩) hS_3.2.2 dX11_refusalOfSubject_17
  · refine lv_bipush (v := (-2)) hx hb dX11_refusalOfSubject_7 (by decide) ?_
    rw [hQQ]
    exact W.iret (v := (-2)) hx hb hr (fun t9 ht9 hW9 => ⟨⟨(-2), (-2), rfl, rfl, ⟨v_latestFinding, w_1.2 c_2, by rw [ht9]; exact hP_1, hD_1⟩⟩, hS_1.F ht9⟩) hS_1.2.2 dX11_refusalOfSubject_9
def w_X11_isTold_14 (Q : Int32 → Prop) (s0_14 : Int32) : Prop :=
  (s0_14 = 0 ∨ s0_14 = 1) ∧ Q s0_14
def w_X11_isTold (p0 : Int32) (p1 : Int32) (Q : Int32 → Prop) : Prop :=
  ∀ x_1 : Int32, x_1 = p0 >>> (p1 &&& 31) → ∀ x_2 : Int32, x_2 = x_1 &&& (1 : Int32) → ((¬ x_2 = 1) → w_X11_isTold_14 Q 0) ∧ ((x_2 = 1) → w_X11_isTold_14 Q 1)
set_option maxHeartbeats 4000000 in
set_option maxRecDepth 100000 in
theorem mt_X11_isTold (l : Launch) (dC : Nat → ClassId) (dI : Nat → Nat → Nat) (p0 : Int32) (p1 : Int32) (Q : Int32 → Prop) (w : w_X11_isTold p0 p1 Q) (sz : Nat) : Met l yX11_isTold (WS yX11_isTold cX11_isTold 2 (some (.boolean))) ({ frames := 0, cells := 0, slots := 0, locals := 0 } : Room) (va_Pc [.int p0, .int p1] (fun U => U.heap.size = sz ∧ va_P (dC, dI) vwCl [] U.heap ∧ va_K (dC, dI) vwCl [] U ∧ va_D (fun _ => True) [])) (va_Qi (fun (r u : Int32) => r = u) (fun (u : Int32) (t : State) => (Q u) ∧ va_P (dC, dI) vwCl [] t.heap ∧ va_D (va_A [] sz) []) (va_A [] sz)) 0 0 (va_A [] sz) := by
  refine Met.ofW (cc := cX11_isTold) (maxL := 2) (ret := (some (.boolean))) (by decide) rfl ?_
  intro p e s m args below meth c s₁ B hml hv
  obtain ⟨rfl, hsz, hP, hK, hD0⟩ := hv
  have hx := B.exec
  have hb := B.bytes
  have hr := B.returns
  have hts := atoms_spec (ws := WS yX11_isTold cX11_isTold 2 (some (.boolean))) B.pre
  have ht : ∀ w ∈ TW, w.before _ s = true := fun w h => hts w (List.mem_cons_of_mem _ h)
  have hown : s.vm.findClass "PatternWorkshop" = some m.cls := findClass_of_methodNamed B.named
  have hlocks := B.notSynchronized
  subst hsz
  have hD := hD0.self (sz := s.heap.size)
  generalize hAe : va_A [] s.heap.size = A at hD ⊢
  have hA : ∀ q : Nat, s.heap.size ≤ q → A q := fun q h => by rw [← hAe]; exact Or.inr h
  have hS : va_S A s.heap s.heap [] := va_S.rf
  have hP : va_P (dC, dI) vwCl [] s.heap := hP
  have hl := lv_entry ([.int p0, .int p1]) (n := 2) (Nat.le_of_ble_eq_true rfl)
  rw [lg_entry_eq]
  generalize (lg_sl ([.int p0, .int p1]) ++ List.replicate (2 - (lg_sl ([.int p0, .int p1])).length) Slot.unset).toArray = ls at hl ⊢
  have hl : lv_has ls 2 [(0, .int p0), (1, .int p1)] := hl
  clear hD0
  obtain ⟨QQ, hQQ⟩ : ∃ QQ, QQ = MQ below (va_Qi (fun (r u : Int32) => r = u) (fun (u : Int32) (t : State) => (Q u) ∧ va_P (dC, dI) vwCl [] t.heap ∧ va_D A []) A) ([.int p0, .int p1]).toArray s 0 0 A := ⟨_, rfl⟩
  show W p l e ({ frames := 0, cells := 0, slots := 0, locals := 0 } : Room) s m ([.int p0, .int p1]).toArray below meth c s.heap [] 0 0 (MQ below (va_Qi (fun (r u : Int32) => r = u) (fun (u : Int32) (t : State) => (Q u) ∧ va_P (dC, dI) vwCl [] t.heap ∧ va_D A []) A) ([.int p0, .int p1]).toArray s 0 0 A) (F0 m 0 ls [])
  rw [← hQQ]
  unfold w_X11_isTold at w
  refine lv_iload_n hx hb dX11_isTold_0 rfl (lv_at hl 0 rfl) ?_
  refine lv_iload_n hx hb dX11_isTold_1 rfl (lv_at hl 1 rfl) ?_
  refine lv_ishr hx hb dX11_isTold_2 ?_
  refine lv_topi (fun x_1 ex_1 => ?_)
  have ex_1 : x_1 = p0 >>> (p1 &&& 31) := ex_1
  refine lv_iconst (v := 1) hx hb dX11_isTold_3 (by decide) ?_
  refine lv_iand hx hb dX11_isTold_4 ?_
  refine lv_topi (fun x_2 ex_2 => ?_)
  have ex_2 : x_2 = x_1 &&& (1 : Int32) := ex_2
  refine lv_iconst (v := 1) hx hb dX11_isTold_5 (by decide) ?_
  have k_14 : ∀ (s0_14 : Int32), ∀ (H_b14 : Heap) (locs_b14 : List Loc) (ls_b14 : Array Slot), w_X11_isTold_14 Q s0_14 → va_P (dC, dI) vwCl [] H_b14 → va_D A [] → va_S A s.heap H_b14 locs_b14 → lv_has ls_b14 2 [] → W p l e ({ frames := 0, cells := 0, slots := 0, locals := 0 } : Room) s m ([.int p0, .int p1]).toArray below meth c H_b14 locs_b14 0 0 QQ (F0 m 14 ls_b14 [.int s0_14]) := by
    intro s0_14 H_b14 locs_b14 ls_b14 w_b14 hP_b14 hD_b14 hS_b14 hl_b14
    unfold w_X11_isTold_14 at w_b14
    rw [hQQ]
    exact W.zret (v := s0_14) hx hb hr (or_nar w_b14.1) (fun t9 ht9 hW9 => ⟨⟨s0_14, s0_14, rfl, rfl, ⟨w_b14.2, by rw [ht9]; exact hP_b14, hD_b14⟩⟩, hS_b14.F ht9⟩) hS_b14.2.2 dX11_isTold_14
  refine lv_icmp_ne (tgt := 13) hx hb dX11_isTold_6 (by decide) (fun c_3 => ?_) (fun c_3 => ?_)
  · refine lv_iconst (v := 0) hx hb dX11_isTold_13 (by decide) ?_
    exact k_14 0 _ _ _ ((w x_1 ex_1 x_2 ex_2).1 c_3) hP hD hS (lv_sub hl [] rfl)
  · refine lv_iconst (v := 1) hx hb dX11_isTold_9 (by decide) ?_
    refine lv_goto (tgt := 14) hx hb dX11_isTold_10 (by decide) ?_
    exact k_14 1 _ _ _ ((w x_1 ex_1 x_2 ex_2).2 c_3) hP hD hS (lv_sub hl [] rfl)
