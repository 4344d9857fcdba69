def w_X7_empty (Q : Int32 → Bool → Prop) : Prop :=
  Q  0 false
set_option maxHeartbeats 4000000 in
set_option maxRecDepth 100000 in
theorem mt_X7_empty (l : Launch) (dC : Nat → ClassId) (dI : Nat → Nat → Nat) (h0 h1 : Nat) (v_count : Int32) (v_over : Bool) (v_there : Bool) (Q : Int32 → Bool → Prop) (w : w_X7_empty  Q) (sz : Nat) : Met l yX7_empty (WS yX7_empty cX7_empty 1 none) ({ frames := 0, cells := 0, slots := 0, locals := 0 } : Room) (va_Pc [.ref h0] (fun U => U.heap.size = sz ∧ va_P (dC, dI) vwCl [(h0, .inr (10, oX7 (.ref h1) v_count v_over v_there))] U.heap ∧ va_K (dC, dI) vwCl [] U ∧ va_D (fun _ => True) [(h0, .inr (10, oX7 (.ref h1) v_count v_over v_there))])) (va_Qv (fun (u : Nat) => u = 0) (fun (_ : Nat) (t : State) => ∃ (ov_count : Int32), ∃ (ov_over : Bool), (Q ov_count ov_over) ∧ va_P (dC, dI) vwCl [(h0, .inr (10, oX7 (.ref h1) ov_count ov_over v_there))] t.heap ∧ va_D (va_A [(h0, .inr (10, oX7 (.ref h1) v_count v_over v_there))] sz) [(h0, .inr (10, oX7 (.ref h1) ov_count ov_over v_there))]) (va_A [(h0, .inr (10, oX7 (.ref h1) v_count v_over v_there))] sz)) 0 0 (va_A [(h0, .inr (10, oX7 (.ref h1) v_count v_over v_there))] sz) := by
  refine Met.ofW (cc := cX7_empty) (maxL := 1) (ret := none) (by decide) rfl ?_
  intro p e s m args below meth c s₁ B hml hv
  obtain ⟨rfl, hsz, hP, hK, hD0⟩ := hv
  have hx := B.exec
  have hb := B.bytes
  have hr := B.returns
  have hts := atoms_spec (ws := WS yX7_empty cX7_empty 1 none) B.pre
  have ht : ∀ w ∈ TW, w.before _ s = true := fun w h => hts w (List.mem_cons_of_mem _ h)
  have hown : s.vm.findClass "PatternWorkshop$Row" = some m.cls := findClass_of_methodNamed B.named
  have hlocks := B.notSynchronized
  subst hsz
  have hD := hD0.self (sz := s.heap.size)
  generalize hAe : va_A [(h0, .inr (10, oX7 (.ref h1) v_count v_over v_there))] s.heap.size = A at hD ⊢
  have hA : ∀ q : Nat, s.heap.size ≤ q → A q := fun q h => by rw [← hAe]; exact Or.inr h
  have hS : va_S A s.heap s.heap [] := va_S.rf
  have hP : va_P (dC, dI) vwCl [(h0, .inr (10, oX7 (.ref h1) v_count v_over v_there))] s.heap := hP
  have hl := lv_entry ([.ref h0]) (n := 1) (Nat.le_of_ble_eq_true rfl)
  rw [lg_entry_eq]
  generalize (lg_sl ([.ref h0]) ++ List.replicate (1 - (lg_sl ([.ref h0])).length) Slot.unset).toArray = ls at hl ⊢
  have hl : lv_has ls 1 [(0, .ref h0)] := hl
  clear hD0
  obtain ⟨QQ, hQQ⟩ : ∃ QQ, QQ = MQ below (va_Qv (fun (u : Nat) => u = 0) (fun (_ : Nat) (t : State) => ∃ (ov_count : Int32), ∃ (ov_over : Bool), (Q ov_count ov_over) ∧ va_P (dC, dI) vwCl [(h0, .inr (10, oX7 (.ref h1) ov_count ov_over v_there))] t.heap ∧ va_D A [(h0, .inr (10, oX7 (.ref h1) ov_count ov_over v_there))]) A) ([.ref h0]).toArray s 0 0 A := ⟨_, rfl⟩
  show W p l e ({ frames := 0, cells := 0, slots := 0, locals := 0 } : Room) s m ([.ref h0]).toArray below meth c s.heap [] 0 0 (MQ below (va_Qv (fun (u : Nat) => u = 0) (fun (_ : Nat) (t : State) => ∃ (ov_count : Int32), ∃ (ov_over : Bool), (Q ov_count ov_over) ∧ va_P (dC, dI) vwCl [(h0, .inr (10, oX7 (.ref h1) ov_count ov_over v_there))] t.heap ∧ va_D A [(h0, .inr (10, oX7 (.ref h1) ov_count ov_over v_there))]) A) ([.ref h0]).toArray s 0 0 A) (F0 m 0 ls [])
  rw [← hQQ]
  unfold w_X7_empty at w
  refine lv_aload_n hx hb dX7_empty_0 rfl (lv_at hl 0 rfl) ?_
  refine lv_iconst (v := 0) hx hb dX7_empty_1 (by decide) ?_
  refine va_put (D := (dC, dI)) (ci := 10) (v := .int 0) (ty := .int) (C := RX7) (T := TX7) (N := 4) hx hb ht inX7 tyX7 tyX7_ok nmX7 hown hK hP hD hS 0 rfl rfl 1 (by decide) (ht _ tw_277) (fun _ h9 => h9) rfl (by decide +kernel) rfl rfl (Nat.le_of_ble_eq_true rfl) dX7_empty_2 (fun H_1 locs_1 hP_1 hD_1 hS_1 => ?_)
  have hP_1 : va_P (dC, dI) vwCl [(h0, .inr (10, oX7 (.ref h1) 0 v_over v_there))] H_1 := hP_1
  have hD_1 : va_D A [(h0, .inr (10, oX7 (.ref h1) 0 v_over v_there))] := hD_1
  refine lv_aload_n hx hb dX7_empty_5 rfl (lv_at hl 0 rfl) ?_
  refine lv_iconst (v := 0) hx hb dX7_empty_6 (by decide) ?_
  refine va_put (D := (dC, dI)) (ci := 10) (v := .int 0) (ty := .boolean) (C := RX7) (T := TX7) (N := 4) hx hb ht inX7 tyX7 tyX7_ok nmX7 hown hK hP_1 hD_1 hS_1 0 rfl rfl 2 (by decide) (ht _ tw_284) (fun _ h9 => h9) rfl (by decide +kernel) rfl rfl (Nat.le_of_ble_eq_true rfl) dX7_empty_7 (fun H_2 locs_2 hP_2 hD_2 hS_2 => ?_)
  have hP_2 : va_P (dC, dI) vwCl [(h0, .inr (10, oX7 (.ref h1) 0 false v_there))] H_2 := hP_2
  have hD_2 : va_D A [(h0, .inr (10, oX7 (.ref h1) 0 false v_there))] := hD_2
  rw [hQQ]
  exact W.vret hx hb hr (fun t9 ht9 hW9 => ⟨⟨0, rfl, rfl, ⟨0, false, w, by rw [ht9]; exact hP_2, hD_2⟩⟩, hS_2.F ht9⟩) hS_2.2.2 dX7_empty_10
def w_X7_at_31 (Q : Int32 → Prop) (s0_31 : Int32) : Prop :=
  Q s0_31
def w_X7_at_30 (Q : Int32 → Prop) : Prop :=
  w_X7_at_31 Q (-1)
def w_X7_at (p1 : Int32) (v_count : Int32) (v_items : Nat → Int32) (nv_items : Nat) (Q : Int32 → Prop) : Prop :=
  ((p1 < 0) → w_X7_at_30 Q) ∧ ((¬ p1 < 0) → ((v_count ≤ p1) → w_X7_at_30 Q) ∧ ((¬ v_count ≤ p1) → ∀ x_3 : Int32, x_3 = Int32.ofNat nv_items → ((x_3 ≤ p1) → w_X7_at_30 Q) ∧ ((¬ x_3 ≤ p1) → vp_in p1 nv_items ∧ ∀ x_5 : Int32, x_5 = v_items p1.toNatClampNeg → w_X7_at_31 Q x_5)))
set_option maxHeartbeats 4000000 in
set_option maxRecDepth 100000 in
theorem mt_X7_at (l : Launch) (dC : Nat → ClassId) (dI : Nat → Nat → Nat) (h0 h1 : Nat) (k0 : ClassId) (p1 : Int32) (v_count : Int32) (v_over : Bool) (v_there : Bool) (v_items : Nat → Int32) (nv_items : Nat) (Q : Int32 → Prop) (w : w_X7_at p1 v_count v_items nv_items Q) (sz : Nat) : Met l yX7_at (WS yX7_at cX7_at 2 (some (.int))) ({ frames := 0, cells := 0, slots := 0, locals := 0 } : Room) (va_Pc [.ref h0, .int p1] (fun U => U.heap.size = sz ∧ va_P (dC, dI) vwCl [(h0, .inr (10, oX7 (.ref h1) v_count v_over v_there)), (h1, .inl (k0, nv_items, .inl v_items))] U.heap ∧ va_K (dC, dI) vwCl [(k0, .int)] U ∧ va_D (fun _ => True) [(h0, .inr (10, oX7 (.ref h1) v_count v_over v_there)), (h1, .inl (k0, nv_items, .inl v_items))])) (va_Qi (fun (r u : Int32) => r = u) (fun (u : Int32) (t : State) => (Q u) ∧ va_P (dC, dI) vwCl [(h0, .inr (10, oX7 (.ref h1) v_count v_over v_there)), (h1, .inl (k0, nv_items, .inl v_items))] t.heap ∧ va_D (va_A [(h0, .inr (10, oX7 (.ref h1) v_count v_over v_there)), (h1, .inl (k0, nv_items, .inl v_items))] sz) [(h0, .inr (10, oX7 (.ref h1) v_count v_over v_there)), (h1, .inl (k0, nv_items, .inl v_items))]) (va_A [(h0, .inr (10, oX7 (.ref h1) v_count v_over v_there)), (h1, .inl (k0, nv_items, .inl v_items))] sz)) 0 0 (va_A [(h0, .inr (10, oX7 (.ref h1) v_count v_over v_there)), (h1, .inl (k0, nv_items, .inl v_items))] sz) := by
  refine Met.ofW (cc := cX7_at) (maxL := 2) (ret := (some (.int))) (by decide) rfl ?_
  intro p e s m args below meth c s₁ B hml hv
  obtain ⟨rfl, hsz, hP, hK, hD0⟩ := hv
  have hx := B.exec
  have hb := B.bytes
  have hr := B.returns
  have hts := atoms_spec (ws := WS yX7_at cX7_at 2 (some (.int))) B.pre
  have ht : ∀ w ∈ TW, w.before _ s = true := fun w h => hts w (List.mem_cons_of_mem _ h)
  have hown : s.vm.findClass "PatternWorkshop$Row" = some m.cls := findClass_of_methodNamed B.named
  have hlocks := B.notSynchronized
  subst hsz
  have hD := hD0.self (sz := s.heap.size)
  generalize hAe : va_A [(h0, .inr (10, oX7 (.ref h1) v_count v_over v_there)), (h1, .inl (k0, nv_items, .inl v_items))] s.heap.size = A at hD ⊢
  have hA : ∀ q : Nat, s.heap.size ≤ q → A q := fun q h => by rw [← hAe]; exact Or.inr h
  have hS : va_S A s.heap s.heap [] := va_S.rf
  have hP : va_P (dC, dI) vwCl [(h0, .inr (10, oX7 (.ref h1) v_count v_over v_there)), (h1, .inl (k0, nv_items, .inl v_items))] s.heap := hP
  have hl := lv_entry ([.ref h0, .int p1]) (n := 2) (Nat.le_of_ble_eq_true rfl)
  rw [lg_entry_eq]
  generalize (lg_sl ([.ref h0, .int p1]) ++ List.replicate (2 - (lg_sl ([.ref h0, .int p1])).length) Slot.unset).toArray = ls at hl ⊢
  have hl : lv_has ls 2 [(0, .ref h0), (1, .int p1)] := hl
  clear hD0
  obtain ⟨QQ, hQQ⟩ : ∃ QQ, QQ = MQ below (va_Qi (fun (r u : Int32) => r = u) (fun (u : Int32) (t : State) => (Q u) ∧ va_P (dC, dI) vwCl [(h0, .inr (10, oX7 (.ref h1) v_count v_over v_there)), (h1, .inl (k0, nv_items, .inl v_items))] t.heap ∧ va_D A [(h0, .inr (10, oX7 (.ref h1) v_count v_over v_there)), (h1, .inl (k0, nv_items, .inl v_items))]) A) ([.ref h0, .int p1]).toArray s 0 0 A := ⟨_, rfl⟩
  show W p l e ({ frames := 0, cells := 0, slots := 0, locals := 0 } : Room) s m ([.ref h0, .int p1]).toArray below meth c s.heap [] 0 0 (MQ below (va_Qi (fun (r u : Int32) => r = u) (fun (u : Int32) (t : State) => (Q u) ∧ va_P (dC, dI) vwCl [(h0, .inr (10, oX7 (.ref h1) v_count v_over v_there)), (h1, .inl (k0, nv_items, .inl v_items))] t.heap ∧ va_D A [(h0, .inr (10, oX7 (.ref h1) v_count v_over v_there)), (h1, .inl (k0, nv_items, .inl v_items))]) A) ([.ref h0, .int p1]).toArray s 0 0 A) (F0 m 0 ls [])
  rw [← hQQ]
  unfold w_X7_at at w
  refine lv_iload_n hx hb dX7_at_0 rfl (lv_at hl 1 rfl) ?_
  have k_31 : ∀ (s0_31 : Int32), ∀ (H_b31 : Heap) (locs_b31 : List Loc) (ls_b31 : Array Slot), w_X7_at_31 Q s0_31 → va_P (dC, dI) vwCl [(h0, .inr (10, oX7 (.ref h1) v_count v_over v_there)), (h1, .inl (k0, nv_items, .inl v_items))] H_b31 → va_D A [(h0, .inr (10, oX7 (.ref h1) v_count v_over v_there)), (h1, .inl (k0, nv_items, .inl v_items))] → va_S A s.heap H_b31 locs_b31 → lv_has ls_b31 2 [] → W p l e ({ frames := 0, cells := 0, slots := 0, locals := 0 } : Room) s m ([.ref h0, .int p1]).toArray below meth c H_b31 locs_b31 0 0 QQ (F0 m 31 ls_b31 [.int s0_31]) := by
    intro s0_31 H_b31 locs_b31 ls_b31 w_b31 hP_b31 hD_b31 hS_b31 hl_b31
    unfold w_X7_at_31 at w_b31
    rw [hQQ]
    exact W.iret (v := s0_31) hx hb hr (fun t9 ht9 hW9 => ⟨⟨s0_31, s0_31, rfl, rfl, ⟨w_b31, by rw [ht9]; exact hP_b31, hD_b31⟩⟩, hS_b31.F ht9⟩) hS_b31.2.2 dX7_at_31
  have k_30 : ∀ (H_b30 : Heap) (locs_b30 : List Loc) (ls_b30 : Array Slot), w_X7_at_30 Q → va_P (dC, dI) vwCl [(h0, .inr (10, oX7 (.ref h1) v_count v_over v_there)), (h1, .inl (k0, nv_items, .inl v_items))] H_b30 → va_D A [(h0, .inr (10, oX7 (.ref h1) v_count v_over v_there)), (h1, .inl (k0, nv_items, .inl v_items))] → va_S A s.heap H_b30 locs_b30 → lv_has ls_b30 2 [] → W p l e ({ frames := 0, cells := 0, slots := 0, locals := 0 } : Room) s m ([.ref h0, .int p1]).toArray below meth c H_b30 locs_b30 0 0 QQ (F0 m 30 ls_b30 []) := by
    intro  H_b30 locs_b30 ls_b30 w_b30 hP_b30 hD_b30 hS_b30 hl_b30
    unfold w_X7_at_30 at w_b30
    refine lv_iconst (v := (-1)) hx hb dX7_at_30 (by decide) ?_
    exact k_31 (-1) _ _ _ w_b30 hP_b30 hD_b30 hS_b30 (lv_sub hl_b30 [] rfl)
  refine lv_if_lt (tgt := 30) hx hb dX7_at_1 (by decide) (fun c_1 => ?_) (fun c_1 => ?_)
  · exact k_30  _ _ _ (w.1 c_1) hP hD hS (lv_sub hl [] rfl)
  · refine lv_iload_n hx hb dX7_at_4 rfl (lv_at hl 1 rfl) ?_
    refine lv_aload_n hx hb dX7_at_5 rfl (lv_at hl 0 rfl) ?_
    refine va_get (D := (dC, dI)) (ci := 10) (v := .int v_count) (C := RX7) (T := TX7) (N := 4) hx hb ht inX7 hown hK hP 0 rfl rfl 1 (by decide) (ht _ tw_277) (fun _ h9 => h9) rfl dX7_at_6 ?_
    refine lv_icmp_ge (tgt := 30) hx hb dX7_at_9 (by decide) (fun c_2 => ?_) (fun c_2 => ?_)
    · exact k_30  _ _ _ ((w.2 c_1).1 c_2) hP hD hS (lv_sub hl [] rfl)
    · refine lv_iload_n hx hb dX7_at_12 rfl (lv_at hl 1 rfl) ?_
      refine lv_aload_n hx hb dX7_at_13 rfl (lv_at hl 0 rfl) ?_
      refine va_get (D := (dC, dI)) (ci := 10) (v := .ref h1) (C := RX7) (T := TX7) (N := 4) hx hb ht inX7 hown hK hP 0 rfl rfl 0 (by decide) (ht _ tw_276) (fun _ h9 => h9) rfl dX7_at_14 ?_
      refine va_alen hx hb hK hP 1 0 rfl rfl rfl dX7_at_17 ?_
      refine lv_topi (fun x_3 ex_3 => ?_)
      have ex_3 : x_3 = Int32.ofNat nv_items := ex_3
      refine lv_icmp_ge (tgt := 30) hx hb dX7_at_18 (by decide) (fun c_4 => ?_) (fun c_4 => ?_)
      · exact k_30  _ _ _ ((((w.2 c_1).2 c_2) x_3 ex_3).1 c_4) hP hD hS (lv_sub hl [] rfl)
      · refine lv_aload_n hx hb dX7_at_21 rfl (lv_at hl 0 rfl) ?_
        refine va_get (D := (dC, dI)) (ci := 10) (v := .ref h1) (C := RX7) (T := TX7) (N := 4) hx hb ht inX7 hown hK hP 0 rfl rfl 0 (by decide) (ht _ tw_276) (fun _ h9 => h9) rfl dX7_at_22 ?_
        refine lv_iload_n hx hb dX7_at_25 rfl (lv_at hl 1 rfl) ?_
        refine va_iald hx hb hK hP 1 0 rfl rfl (i := p1) ((((w.2 c_1).2 c_2) x_3 ex_3).2 c_4).1 dX7_at_26 ?_
        refine lv_topi (fun x_5 ex_5 => ?_)
        have ex_5 : x_5 = v_items p1.toNatClampNeg := ex_5
        refine lv_goto (tgt := 31) hx hb dX7_at_27 (by decide) ?_
        have w_6 := (((((w.2 c_1).2 c_2) x_3 ex_3).2 c_4).2) x_5 ex_5
        exact k_31 x_5 _ _ _ w_6 hP hD hS (lv_sub hl [] rfl)
def w_X7_add_47 (Q : Int32 → Bool → (Nat → Int32) → Prop) (v_count_47 : Int32) (v_over_47 : Bool) (v_items_47 : Nat → Int32) : Prop :=
  Q  v_count_47 v_over_47 v_items_47
def w_X7_add_42 (Q : Int32 → Bool → (Nat → Int32) → Prop) (v_count_42 : Int32) (v_over_42 : Bool) (v_items_42 : Nat → Int32) : Prop :=
  w_X7_add_47 Q v_count_42 true v_items_42
def w_X7_add (p1 : Int32) (v_count : Int32) (v_over : Bool) (v_items : Nat → Int32) (nv_items : Nat) (Q : Int32 → Bool → (Nat → Int32) → Prop) : Prop :=
  ((v_count < 0) → w_X7_add_42 Q v_count v_over v_items) ∧ ((¬ v_count < 0) → ∀ x_3 : Int32, x_3 = Int32.ofNat nv_items → ((x_3 ≤ v_count) → w_X7_add_42 Q v_count v_over v_items) ∧ ((¬ x_3 ≤ v_count) → vp_in v_count nv_items ∧ ∀ g_5 : Nat → Int32, g_5 = upd v_items v_count.toNatClampNeg p1 → ∀ x_6 : Int32, x_6 = v_count + (1 : Int32) → w_X7_add_47 Q x_6 v_over g_5))
set_option maxHeartbeats 4000000 in
set_option maxRecDepth 100000 in
theorem mt_X7_add (l : Launch) (dC : Nat → ClassId) (dI : Nat → Nat → Nat) (h0 h1 : Nat) (k0 : ClassId) (p1 : Int32) (v_count : Int32) (v_over : Bool) (v_there : Bool) (v_items : Nat → Int32) (nv_items : Nat) (Q : Int32 → Bool → (Nat → Int32) → Prop) (w : w_X7_add p1 v_count v_over v_items nv_items Q) (sz : Nat) : Met l yX7_add (WS yX7_add cX7_add 2 none) ({ frames := 0, cells := 0, slots := 0, locals := 0 } : Room) (va_Pc [.ref h0, .int p1] (fun U => U.heap.size = sz ∧ va_P (dC, dI) vwCl [(h0, .inr (10, oX7 (.ref h1) v_count v_over v_there)), (h1, .inl (k0, nv_items, .inl v_items))] U.heap ∧ va_K (dC, dI) vwCl [(k0, .int)] U ∧ va_D (fun _ => True) [(h0, .inr (10, oX7 (.ref h1) v_count v_over v_there)), (h1, .inl (k0, nv_items, .inl v_items))])) (va_Qv (fun (u : Nat) => u = 0) (fun (_ : Nat) (t : State) => ∃ (ov_count : Int32), ∃ (ov_over : Bool), ∃ (ov_items : Nat → Int32), (Q ov_count ov_over ov_items) ∧ va_P (dC, dI) vwCl [(h0, .inr (10, oX7 (.ref h1) ov_count ov_over v_there)), (h1, .inl (k0, nv_items, .inl ov_items))] t.heap ∧ va_D (va_A [(h0, .inr (10, oX7 (.ref h1) v_count v_over v_there)), (h1, .inl (k0, nv_items, .inl v_items))] sz) [(h0, .inr (10, oX7 (.ref h1) ov_count ov_over v_there)), (h1, .inl (k0, nv_items, .inl ov_items))]) (va_A [(h0, .inr (10, oX7 (.ref h1) v_count v_over v_there)), (h1, .inl (k0, nv_items, .inl v_items))] sz)) 0 0 (va_A [(h0, .inr (10, oX7 (.ref h1) v_count v_over v_there)), (h1, .inl (k0, nv_items, .inl v_items))] sz) := by
  refine Met.ofW (cc := cX7_add) (maxL := 2) (ret := none) (by decide) rfl ?_
  intro p e s m args below meth c s₁ B hml hv
  obtain ⟨rfl, hsz, hP, hK, hD0⟩ := hv
  have hx := B.exec
  have hb := B.bytes
  have hr := B.returns
  have hts := atoms_spec (ws := WS yX7_add cX7_add 2 none) B.pre
  have ht : ∀ w ∈ TW, w.before _ s = true := fun w h => hts w (List.mem_cons_of_mem _ h)
  have hown : s.vm.findClass "PatternWorkshop$Row" = some m.cls := findClass_of_methodNamed B.named
  have hlocks := B.notSynchronized
  subst hsz
  have hD := hD0.self (sz := s.heap.size)
  generalize hAe : va_A [(h0, .inr (10, oX7 (.ref h1) v_count v_over v_there)), (h1, .inl (k0, nv_items, .inl v_items))] s.heap.size = A at hD ⊢
  have hA : ∀ q : Nat, s.heap.size ≤ q → A q := fun q h => by rw [← hAe]; exact Or.inr h
  have hS : va_S A s.heap s.heap [] := va_S.rf
  have hP : va_P (dC, dI) vwCl [(h0, .inr (10, oX7 (.ref h1) v_count v_over v_there)), (h1, .inl (k0, nv_items, .inl v_items))] s.heap := hP
  have hl := lv_entry ([.ref h0, .int p1]) (n := 2) (Nat.le_of_ble_eq_true rfl)
  rw [lg_entry_eq]
  generalize (lg_sl ([.ref h0, .int p1]) ++ List.replicate (2 - (lg_sl ([.ref h0, .int p1])).length) Slot.unset).toArray = ls at hl ⊢
  have hl : lv_has ls 2 [(0, .ref h0), (1, .int p1)] := hl
  clear hD0
  obtain ⟨QQ, hQQ⟩ : ∃ QQ, QQ = MQ below (va_Qv (fun (u : Nat) => u = 0) (fun (_ : Nat) (t : State) => ∃ (ov_count : Int32), ∃ (ov_over : Bool), ∃ (ov_items : Nat → Int32), (Q ov_count ov_over ov_items) ∧ va_P (dC, dI) vwCl [(h0, .inr (10, oX7 (.ref h1) ov_count ov_over v_there)), (h1, .inl (k0, nv_items, .inl ov_items))] t.heap ∧ va_D A [(h0, .inr (10, oX7 (.ref h1) ov_count ov_over v_there)), (h1, .inl (k0, nv_items, .inl ov_items))]) A) ([.ref h0, .int p1]).toArray s 0 0 A := ⟨_, rfl⟩
  show W p l e ({ frames := 0, cells := 0, slots := 0, locals := 0 } : Room) s m ([.ref h0, .int p1]).toArray below meth c s.heap [] 0 0 (MQ below (va_Qv (fun (u : Nat) => u = 0) (fun (_ : Nat) (t : State) => ∃ (ov_count : Int32), ∃ (ov_over : Bool), ∃ (ov_items : Nat → Int32), (Q ov_count ov_over ov_items) ∧ va_P (dC, dI) vwCl [(h0, .inr (10, oX7 (.ref h1) ov_count ov_over v_there)), (h1, .inl (k0, nv_items, .inl ov_items))] t.heap ∧ va_D A [(h0, .inr (10, oX7 (.ref h1) ov_count ov_over v_there)), (h1, .inl (k0, nv_items, .inl ov_items))]) A) ([.ref h0, .int p1]).toArray s 0 0 A) (F0 m 0 ls [])
  rw [← hQQ]
  unfold w_X7_add at w
  refine lv_aload_n hx hb dX7_add_0 rfl (lv_at hl 0 rfl) ?_
  refine va_get (D := (dC, dI)) (ci := 10) (v := .int v_count) (C := RX7) (T := TX7) (N := 4) hx hb ht inX7 hown hK hP 0 rfl rfl 1 (by decide) (ht _ tw_277) (fun _ h9 => h9) rfl dX7_add_1 ?_
  have k_47 : ∀ (v_count_47 : Int32) (v_over_47 : Bool) (v_items_47 : Nat → Int32), ∀ (H_b47 : Heap) (locs_b47 : List Loc) (ls_b47 : Array Slot), w_X7_add_47 Q v_count_47 v_over_47 v_items_47 → va_P (dC, dI) vwCl [(h0, .inr (10, oX7 (.ref h1) v_count_47 v_over_47 v_there)), (h1, .inl (k0, nv_items, .inl v_items_47))] H_b47 → va_D A [(h0, .inr (10, oX7 (.ref h1) v_count_47 v_over_47 v_there)), (h1, .inl (k0, nv_items, .inl v_items_47))] → va_S A s.heap H_b47 locs_b47 → lv_has ls_b47 2 [] → W p l e ({ frames := 0, cells := 0, slots := 0, locals := 0 } : Room) s m ([.ref h0, .int p1]).toArray below meth c H_b47 locs_b47 0 0 QQ (F0 m 47 ls_b47 []) := by
    intro v_count_47 v_over_47 v_items_47 H_b47 locs_b47 ls_b47 w_b47 hP_b47 hD_b47 hS_b47 hl_b47
    unfold w_X7_add_47 at w_b47
    rw [hQQ]
    exact W.vret hx hb hr (fun t9 ht9 hW9 => ⟨⟨0, rfl, rfl, ⟨v_count_47, v_over_47, v_items_47, w_b47, by rw [ht9]; exact hP_b47, hD_b47⟩⟩, hS_b47.F ht9⟩) hS_b47.2.2 dX7_add_47
  have k_42 : ∀ (v_count_42 : Int32) (v_over_42 : Bool) (v_items_42 : Nat → Int32), ∀ (H_b42 : Heap) (locs_b42 : List Loc) (ls_b42 : Array Slot), w_X7_add_42 Q v_count_42 v_over_42 v_items_42 → va_P (dC, dI) vwCl [(h0, .inr (10, oX7 (.ref h1) v_count_42 v_over_42 v_there)), (h1, .inl (k0, nv_items, .inl v_items_42))] H_b42 → va_D A [(h0, .inr (10, oX7 (.ref h1) v_count_42 v_over_42 v_there)), (h1, .inl (k0, nv_items, .inl v_items_42))] → va_S A s.heap H_b42 locs_b42 → lv_has ls_b42 2 [(0, .ref h0)] → W p l e ({ frames := 0, cells := 0, slots := 0, locals := 0 } : Room) s m ([.ref h0, .int p1]).toArray below meth c H_b42 locs_b42 0 0 QQ (F0 m 42 ls_b42 []) := by
    intro v_count_42 v_over_42 v_items_42 H_b42 locs_b42 ls_b42 w_b42 hP_b42 hD_b42 hS_b42 hl_b42
    unfold w_X7_add_42 at w_b42
    refine lv_aload_n hx hb dX7_add_42 rfl (lv_at hl_b42 0 rfl) ?_
    refine lv_iconst (v := 1) hx hb dX7_add_43 (by decide) ?_
    refine va_put (D := (dC, dI)) (ci := 10) (v := .int 1) (ty := .boolean) (C := RX7) (T := TX7) (N := 4) hx hb ht inX7 tyX7 tyX7_ok nmX7 hown hK hP_b42 hD_b42 hS_b42 0 rfl rfl 2 (by decide) (ht _ tw_284) (fun _ h9 => h9) rfl (by decide +kernel) rfl rfl (Nat.le_of_ble_eq_true rfl) dX7_add_44 (fun H_1 locs_1 hP_1 hD_1 hS_1 => ?_)
    have hP_1 : va_P (dC, dI) vwCl [(h0, .inr (10, oX7 (.ref h1) v_count_42 true v_there)), (h1, .inl (k0, nv_items, .inl v_items_42))] H_1 := hP_1
    have hD_1 : va_D A [(h0, .inr (10, oX7 (.ref h1) v_count_42 true v_there)), (h1, .inl (k0, nv_items, .inl v_items_42))] := hD_1
    exact k_47 v_count_42 true v_items_42 _ _ _ w_b42 hP_1 hD_1 hS_1 (lv_sub hl_b42 [] rfl)
  refine lv_if_lt (tgt := 42) hx hb dX7_add_4 (by decide) (fun c_2 => ?_) (fun c_2 => ?_)
  · exact k_42 v_count v_over v_items _ _ _ (w.1 c_2) hP hD hS (lv_sub hl [0] rfl)
  · refine lv_aload_n hx hb dX7_add_7 rfl (lv_at hl 0 rfl) ?_
    refine va_get (D := (dC, dI)) (ci := 10) (v := .int v_count) (C := RX7) (T := TX7) (N := 4) hx hb ht inX7 hown hK hP 0 rfl rfl 1 (by decide) (ht _ tw_277) (fun _ h9 => h9) rfl dX7_add_8 ?_
    refine lv_aload_n hx hb dX7_add_11 rfl (lv_at hl 0 rfl) ?_
    refine va_get (D := (dC, dI)) (ci := 10) (v := .ref h1) (C := RX7) (T := TX7) (N := 4) hx hb ht inX7 hown hK hP 0 rfl rfl 0 (by decide) (ht _ tw_276) (fun _ h9 => h9) rfl dX7_add_12 ?_
    refine va_alen hx hb hK hP 1 0 rfl rfl rfl dX7_add_15 ?_
    refine lv_topi (fun x_3 ex_3 => ?_)
    have ex_3 : x_3 = Int32.ofNat nv_items := ex_3
    refine lv_icmp_ge (tgt := 42) hx hb dX7_add_16 (by decide) (fun c_4 => ?_) (fun c_4 => ?_)
    · exact k_42 v_count v_over v_items _ _ _ ((w.2 c_2 x_3 ex_3).1 c_4) hP hD hS (lv_sub hl [0] rfl)
    · refine lv_aload_n hx hb dX7_add_19 rfl (lv_at hl 0 rfl) ?_
      refine va_get (D := (dC, dI)) (ci := 10) (v := .ref h1) (C := RX7) (T := TX7) (N := 4) hx hb ht inX7 hown hK hP 0 rfl rfl 0 (by decide) (ht _ tw_276) (fun _ h9 => h9) rfl dX7_add_20 ?_
      refine lv_aload_n hx hb dX7_add_23 rfl (lv_at hl 0 rfl) ?_
      refine va_get (D := (dC, dI)) (ci := 10) (v := .int v_count) (C := RX7) (T := TX7) (N := 4) hx hb ht inX7 hown hK hP 0 rfl rfl 1 (by decide) (ht _ tw_277) (fun _ h9 => h9) rfl dX7_add_24 ?_
      refine lv_iload_n hx hb dX7_add_27 rfl (lv_at hl 1 rfl) ?_
      refine va_iast hx hb hK hP hD hS 1 0 rfl rfl (i := v_count) ((w.2 c_2 x_3 ex_3).2 c_4).1 dX7_add_28 (fun H_5 locs_5 hP_5 hD_5 hS_5 => ?_)
      obtain ⟨g_5, hg_5⟩ : ∃ g : Nat → Int32, g = upd v_items v_count.toNatClampNeg p1 := ⟨_, rfl⟩
      have hP_5 : va_P (dC, dI) vwCl [(h0, .inr (10, oX7 (.ref h1) v_count v_over v_there)), (h1, .inl (k0, nv_items, .inl g_5))] H_5 := by rw [hg_5]; exact hP_5
      have hD_5 : va_D A [(h0, .inr (10, oX7 (.ref h1) v_count v_over v_there)), (h1, .inl (k0, nv_items, .inl g_5))] := by rw [hg_5]; exact hD_5
      refine lv_aload_n hx hb dX7_add_29 rfl (lv_at hl 0 rfl) ?_
      refine lv_dup hx hb dX7_add_30 rfl ?_
      refine va_get (D := (dC, dI)) (ci := 10) (v := .int v_count) (C := RX7) (T := TX7) (N := 4) hx hb ht inX7 hown hK hP_5 0 rfl rfl 1 (by decide) (ht _ tw_277) (fun _ h9 => h9) rfl dX7_add_31 ?_
      refine lv_iconst (v := 1) hx hb dX7_add_34 (by decide) ?_
      refine lv_iadd hx hb dX7_add_35 ?_
      refine lv_topi (fun x_6 ex_6 => ?_)
      have ex_6 : x_6 = v_count + (1 : Int32) := ex_6
      refine va_put (D := (dC, dI)) (ci := 10) (v := .int x_6) (ty := .int) (C := RX7) (T := TX7) (N := 4) hx hb ht inX7 tyX7 tyX7_ok nmX7 hown hK hP_5 hD_5 hS_5 0 rfl rfl 1 (by decide) (ht _ tw_277) (fun _ h9 => h9) rfl (by decide +kernel) rfl rfl (Nat.le_of_ble_eq_true rfl) dX7_add_36 (fun H_7 locs_7 hP_7 hD_7 hS_7 => ?_)
      have hP_7 : va_P (dC, dI) vwCl [(h0, .inr (10, oX7 (.ref h1) x_6 v_over v_there)), (h1, .inl (k0, nv_items, .inl g_5))] H_7 := hP_7
      have hD_7 : va_D A [(h0, .inr (10, oX7 (.ref h1) x_6 v_over v_there)), (h1, .inl (k0, nv_items, .inl g_5))] := hD_7
      refine lv_goto (tgt := 47) hx hb dX7_add_39 (by decide) ?_
      have w_8 := ((((w.2 c_2 x_3 ex_3).2 c_4).2) g_5 hg_5) x_6 ex_6
      exact k_47 x_6 v_over g_5 _ _ _ w_8 hP_7 hD_7 hS_7 (lv_sub hl [] rfl)
def w_X7_addFrom_38 (Q : Int32 → Bool → (Nat → Int32) → Prop) (v_count_38 : Int32) (v_over_38 : Bool) (v_items_38 : Nat → Int32) : Prop :=
  Q  v_count_38 v_over_38 v_items_38
def w_X7_addFrom_7B (p3 : Int32) (a1_count : Int32) (a1_items : Nat → Int32) (na1_items : Nat) (nv_items : Nat) (Q : Int32 → Bool → (Nat → Int32) → Prop) (K7 : Int32 → Int32 → Bool → (Nat → Int32) → Prop) (l4_7 : Int32) (v_count_7 : Int32) (v_over_7 : Bool) (v_items_7 : Nat → Int32) : Prop :=
  ((p3 ≤ l4_7) → w_X7_addFrom_38 Q v_count_7 v_over_7 v_items_7) ∧ ((¬ p3 ≤ l4_7) → ((a1_count ≤ l4_7) → w_X7_addFrom_38 Q v_count_7 v_over_7 v_items_7) ∧ ((¬ a1_count ≤ l4_7) → w_X7_at l4_7 a1_count a1_items na1_items (fun r_5 => w_X7_add r_5 v_count_7 v_over_7 v_items_7 nv_items (fun r_6_0 r_6_1 r_6_2 => ∀ x_7 : Int32, x_7 = l4_7 + 1 → K7 x_7 r_6_0 r_6_1 r_6_2))))
def w_X7_addFrom_7 (p3 : Int32) (a1_count : Int32) (a1_items : Nat → Int32) (na1_items : Nat) (nv_items : Nat) (Q : Int32 → Bool → (Nat → Int32) → Prop) : Nat → Int32 → Int32 → Bool → (Nat → Int32) → Prop
  | 0, _, _, _, _ => False
  | n9 + 1, l4_7, v_count_7, v_over_7, v_items_7 => w_X7_addFrom_7B p3 a1_count a1_items na1_items nv_items Q (w_X7_addFrom_7 p3 a1_count a1_items na1_items nv_items Q n9) l4_7 v_count_7 v_over_7 v_items_7
def w_X7_addFrom (p2 : Int32) (p3 : Int32) (a1_count : Int32) (a1_items : Nat → Int32) (na1_items : Nat) (v_count : Int32) (v_over : Bool) (v_items : Nat → Int32) (nv_items : Nat) (Q : Int32 → Bool → (Nat → Int32) → Prop) : Prop :=
  ∀ x_1 : Int32, x_1 = (if p2 < (0 : Int32) then (0 : Int32) else p2) → ∃ k9 : Nat, w_X7_addFrom_7 p3 a1_count a1_items na1_items nv_items Q k9 x_1 v_count v_over v_items
set_option maxHeartbeats 4000000 in
set_option maxRecDepth 100000 in
theorem mt_X7_addFrom (l : Launch) (dC : Nat → ClassId) (dI : Nat → Nat → Nat) (h0 h1 h2 h3 : Nat) (k0 k1 : ClassId) (p2 : Int32) (p3 : Int32) (a1_count : Int32) (a1_over : Bool) (a1_there : Bool) (a1_items : Nat → Int32) (na1_items : Nat) (v_count : Int32) (v_over : Bool) (v_there : Bool) (v_items : Nat → Int32) (nv_items : Nat) (Q : Int32 → Bool → (Nat → Int32) → Prop) (w : w_X7_addFrom p2 p3 a1_count a1_items na1_items v_count v_over v_items nv_items Q) (sz : Nat) : Met l yX7_addFrom (WS yX7_addFrom cX7_addFrom 5 none) ({ frames := 1, cells := 0, slots := 0, locals := 21 } : Room) (va_Pc [.ref h0, .ref h1, .int p2, .int p3] (fun U => U.heap.size = sz ∧ va_P (dC, dI) vwCl [(h1, .inr (10, oX7 (.ref h2) a1_count a1_over a1_there)), (h2, .inl (k0, na1_items, .inl a1_items)), (h0, .inr (10, oX7 (.ref h3) v_count v_over v_there)), (h3, .inl (k1, nv_items, .inl v_items))] U.heap ∧ va_K (dC, dI) vwCl [(k0, .int), (k1, .int)] U ∧ va_D (fun _ => True) [(h1, .inr (10, oX7 (.ref h2) a1_count a1_over a1_there)), (h2, .inl (k0, na1_items, .inl a1_items)), (h0, .inr (10, oX7 (.ref h3) v_count v_over v_there)), (h3, .inl (k1, nv_items, .inl v_items))])) (va_Qv (fun (u : Nat) => u = 0) (fun (_ : Nat) (t : State) => ∃ (ov_count : Int32), ∃ (ov_over : Bool), ∃ (ov_items : Nat → Int32), (Q ov_count ov_over ov_items) ∧ va_P (dC, dI) vwCl [(h1, .inr (10, oX7 (.ref h2) a1_count a1_over a1_there)), (h2, .inl (k0, na1_items, .inl a1_items)), (h0, .inr (10, oX7 (.ref h3) ov_count ov_over v_there)), (h3, .inl (k1, nv_items, .inl ov_items))] t.heap ∧ va_D (va_A [(h1, .inr (10, oX7 (.ref h2) a1_count a1_over a1_there)), (h2, .inl (k0, na1_items, .inl a1_items)), (h0, .inr (10, oX7 (.ref h3) v_count v_over v_there)), (h3, .inl (k1, nv_items, .inl v_items))] sz) [(h1, .inr (10, oX7 (.ref h2) a1_count a1_over a1_there)), (h2, .inl (k0, na1_items, .inl a1_items)), (h0, .inr (10, oX7 (.ref h3) ov_count ov_over v_there)), (h3, .inl (k1, nv_items, .inl ov_items))]) (va_A [(h1, .inr (10, oX7 (.ref h2) a1_count a1_over a1_there)), (h2, .inl (k0, na1_items, .inl a1_items)), (h0, .inr (10, oX7 (.ref h3) v_count v_over v_there)), (h3, .inl (k1, nv_items, .inl v_items))] sz)) 0 0 (va_A [(h1, .inr (10, oX7 (.ref h2) a1_count a1_over a1_there)), (h2, .inl (k0, na1_items, .inl a1_items)), (h0, .inr (10, oX7 (.ref h3) v_count v_over v_there)), (h3, .inl (k1, nv_items, .inl v_items))] sz) := by
  refine Met.ofW (cc := cX7_addFrom) (maxL := 5) (ret := none) (by decide) rfl ?_
  intro p e s m args below meth c s₁ B hml hv
  obtain ⟨rfl, hsz, hP, hK, hD0⟩ := hv
  have hx := B.exec
  have hb := B.bytes
  have hr := B.returns
  have hts := atoms_spec (ws := WS yX7_addFrom cX7_addFrom 5 none) B.pre
  have ht : ∀ w ∈ TW, w.before _ s = true := fun w h => hts w (List.mem_cons_of_mem _ h)
  have hown : s.vm.findClass "PatternWorkshop$Row" = some m.cls := findClass_of_methodNamed B.named
  have hlocks := B.notSynchronized
  subst hsz
  have hD := hD0.self (sz := s.heap.size)
  generalize hAe : va_A [(h1, .inr (10, oX7 (.ref h2) a1_count a1_over a1_there)), (h2, .inl (k0, na1_items, .inl a1_items)), (h0, .inr (10, oX7 (.ref h3) v_count v_over v_there)), (h3, .inl (k1, nv_items, .inl v_items))] s.heap.size = A at hD ⊢
  have hA : ∀ q : Nat, s.heap.size ≤ q → A q := fun q h => by rw [← hAe]; exact Or.inr h
  have hS : va_S A s.heap s.heap [] := va_S.rf
  have hP : va_P (dC, dI) vwCl [(h1, .inr (10, oX7 (.ref h2) a1_count a1_over a1_there)), (h2, .inl (k0, na1_items, .inl a1_items)), (h0, .inr (10, oX7 (.ref h3) v_count v_over v_there)), (h3, .inl (k1, nv_items, .inl v_items))] s.heap := hP
  have hl := lv_entry ([.ref h0, .ref h1, .int p2, .int p3]) (n := 5) (Nat.le_of_ble_eq_true rfl)
  rw [lg_entry_eq]
  generalize (lg_sl ([.ref h0, .ref h1, .int p2, .int p3]) ++ List.replicate (5 - (lg_sl ([.ref h0, .ref h1, .int p2, .int p3])).length) Slot.unset).toArray = ls at hl ⊢
  have hl : lv_has ls 5 [(0, .ref h0), (1, .ref h1), (2, .int p2), (3, .int p3)] := hl
  clear hD0
  obtain ⟨QQ, hQQ⟩ : ∃ QQ, QQ = MQ below (va_Qv (fun (u : Nat) => u = 0) (fun (_ : Nat) (t : State) => ∃ (ov_count : Int32), ∃ (ov_over : Bool), ∃ (ov_items : Nat → Int32), (Q ov_count ov_over ov_items) ∧ va_P (dC, dI) vwCl [(h1, .inr (10, oX7 (.ref h2) a1_count a1_over a1_there)), (h2, .inl (k0, na1_items, .inl a1_items)), (h0, .inr (10, oX7 (.ref h3) ov_count ov_over v_there)), (h3, .inl (k1, nv_items, .inl ov_items))] t.heap ∧ va_D A [(h1, .inr (10, oX7 (.ref h2) a1_count a1_over a1_there)), (h2, .inl (k0, na1_items, .inl a1_items)), (h0, .inr (10, oX7 (.ref h3) ov_count ov_over v_there)), (h3, .inl (k1, nv_items, .inl ov_items))]) A) ([.ref h0, .ref h1, .int p2, .int p3]).toArray s 0 0 A := ⟨_, rfl⟩
  show W p l e ({ frames := 1, cells := 0, slots := 0, locals := 21 } : Room) s m ([.ref h0, .ref h1, .int p2, .int p3]).toArray below meth c s.heap [] 0 0 (MQ below (va_Qv (fun (u : Nat) => u = 0) (fun (_ : Nat) (t : State) => ∃ (ov_count : Int32), ∃ (ov_over : Bool), ∃ (ov_items : Nat → Int32), (Q ov_count ov_over ov_items) ∧ va_P (dC, dI) vwCl [(h1, .inr (10, oX7 (.ref h2) a1_count a1_over a1_there)), (h2, .inl (k0, na1_items, .inl a1_items)), (h0, .inr (10, oX7 (.ref h3) ov_count ov_over v_there)), (h3, .inl (k1, nv_items, .inl ov_items))] t.heap ∧ va_D A [(h1, .inr (10, oX7 (.ref h2) a1_count a1_over a1_there)), (h2, .inl (k0, na1_items, .inl a1_items)), (h0, .inr (10, oX7 (.ref h3) ov_count ov_over v_there)), (h3, .inl (k1, nv_items, .inl ov_items))]) A) ([.ref h0, .ref h1, .int p2, .int p3]).toArray s 0 0 A) (F0 m 0 ls [])
  rw [← hQQ]
  unfold w_X7_addFrom at w
  refine lv_iload_n hx hb dX7_addFrom_0 rfl (lv_at hl 2 rfl) ?_
  refine lv_iconst (v := 0) hx hb dX7_addFrom_1 (by decide) ?_
  refine va_mmax hx hb (by rw [hml]; exact hl.1.symm) hown (ht _ tw_273) (ht _ tw_274) (ht _ tw_238) (ht _ tw_275) (Nat.le_of_ble_eq_true rfl) (Nat.le_of_ble_eq_true rfl) (Nat.le_of_ble_eq_true rfl) (Nat.le_of_ble_eq_true rfl) dX7_addFrom_2 ?_
  refine lv_topi (fun x_1 ex_1 => ?_)
  have ex_1 : x_1 = (if p2 < (0 : Int32) then (0 : Int32) else p2) := ex_1
  refine lv_istore (lv' := [(4, .int x_1), (0, .ref h0), (1, .ref h1), (2, .int p2), (3, .int p3)]) hx hb dX7_addFrom_5 hl (by decide) rfl (fun ls_2 hl_2 => ?_)
  clear hl
  have k_7 : ∀ n_7 : Nat, ∀ (l4_7 : Int32) (v_count_7 : Int32) (v_over_7 : Bool) (v_items_7 : Nat → Int32), ∀ (H_b7 : Heap) (locs_b7 : List Loc) (ls_b7 : Array Slot), w_X7_addFrom_7 p3 a1_count a1_items na1_items nv_items Q n_7 l4_7 v_count_7 v_over_7 v_items_7 → va_P (dC, dI) vwCl [(h1, .inr (10, oX7 (.ref h2) a1_count a1_over a1_there)), (h2, .inl (k0, na1_items, .inl a1_items)), (h0, .inr (10, oX7 (.ref h3) v_count_7 v_over_7 v_there)), (h3, .inl (k1, nv_items, .inl v_items_7))] H_b7 → va_D A [(h1, .inr (10, oX7 (.ref h2) a1_count a1_over a1_there)), (h2, .inl (k0, na1_items, .inl a1_items)), (h0, .inr (10, oX7 (.ref h3) v_count_7 v_over_7 v_there)), (h3, .inl (k1, nv_items, .inl v_items_7))] → va_S A s.heap H_b7 locs_b7 → lv_has ls_b7 5 [(0, .ref h0), (1, .ref h1), (3, .int p3), (4, .int l4_7)] → W p l e ({ frames := 1, cells := 0, slots := 0, locals := 21 } : Room) s m ([.ref h0, .ref h1, .int p2, .int p3]).toArray below meth c H_b7 locs_b7 0 0 QQ (F0 m 7 ls_b7 []) := by
    intro n_7
    induction n_7 with
    | zero =>
      intro l4_7 v_count_7 v_over_7 v_items_7 H_b7 locs_b7 ls_b7 w_b7 hP_b7 hD_b7 hS_b7 hl_b7
      exact False.elim (by unfold w_X7_addFrom_7 at w_b7; exact w_b7)
    | succ n_7 ih_7 =>
      intro l4_7 v_count_7 v_over_7 v_items_7 H_b7 locs_b7 ls_b7 w_b7 hP_b7 hD_b7 hS_b7 hl_b7
      unfold w_X7_addFrom_7 at w_b7
      unfold w_X7_addFrom_7B at w_b7
      refine lv_iload hx hb dX7_addFrom_7 (lv_at hl_b7 3 rfl) ?_
      refine lv_iload_n hx hb dX7_addFrom_9 rfl (lv_at hl_b7 2 rfl) ?_
      have k_38 : ∀ (v_count_38 : Int32) (v_over_38 : Bool) (v_items_38 : Nat → Int32), ∀ (H_b38 : Heap) (locs_b38 : List Loc) (ls_b38 : Array Slot), w_X7_addFrom_38 Q v_count_38 v_over_38 v_items_38 → va_P (dC, dI) vwCl [(h1, .inr (10, oX7 (.ref h2) a1_count a1_over a1_there)), (h2, .inl (k0, na1_items, .inl a1_items)), (h0, .inr (10, oX7 (.ref h3) v_count_38 v_over_38 v_there)), (h3, .inl (k1, nv_items, .inl v_items_38))] H_b38 → va_D A [(h1, .inr (10, oX7 (.ref h2) a1_count a1_over a1_there)), (h2, .inl (k0, na1_items, .inl a1_items)), (h0, .inr (10, oX7 (.ref h3) v_count_38 v_over_38 v_there)), (h3, .inl (k1, nv_items, .inl v_items_38))] → va_S A s.heap H_b38 locs_b38 → lv_has ls_b38 5 [] → W p l e ({ frames := 1, cells := 0, slots := 0, locals := 21 } : Room) s m ([.ref h0, .ref h1, .int p2, .int p3]).toArray below meth c H_b38 locs_b38 0 0 QQ (F0 m 38 ls_b38 []) := by
        intro v_count_38 v_over_38 v_items_38 H_b38 locs_b38 ls_b38 w_b38 hP_b38 hD_b38 hS_b38 hl_b38
        unfold w_X7_addFrom_38 at w_b38
        rw [hQQ]
        exact W.vret hx hb hr (fun t9 ht9 hW9 => ⟨⟨0, rfl, rfl, ⟨v_count_38, v_over_38, v_items_38, w_b38, by rw [ht9]; exact hP_b38, hD_b38⟩⟩, hS_b38.F ht9⟩) hS_b38.2.2 dX7_addFrom_38
      refine lv_icmp_ge (tgt := 38) hx hb dX7_addFrom_10 (by decide) (fun c_3 => ?_) (fun c_3 => ?_)
      · exact k_38 v_count_7 v_over_7 v_items_7 _ _ _ (w_b7.1 c_3) hP_b7 hD_b7 hS_b7 (lv_sub hl_b7 [] rfl)
      · refine lv_iload hx hb dX7_addFrom_13 (lv_at hl_b7 3 rfl) ?_
        refine lv_aload_n hx hb dX7_addFrom_15 rfl (lv_at hl_b7 1 rfl) ?_
        refine va_get (D := (dC, dI)) (ci := 10) (v := .int a1_count) (C := RX7) (T := TX7) (N := 4) hx hb ht inX7 hown hK hP_b7 0 rfl rfl 1 (by decide) (ht _ tw_277) (fun _ h9 => h9) rfl dX7_addFrom_16 ?_
        refine lv_icmp_ge (tgt := 38) hx hb dX7_addFrom_19 (by decide) (fun c_4 => ?_) (fun c_4 => ?_)
        · exact k_38 v_count_7 v_over_7 v_items_7 _ _ _ ((w_b7.2 c_3).1 c_4) hP_b7 hD_b7 hS_b7 (lv_sub hl_b7 [] rfl)
        · refine lv_aload_n hx hb dX7_addFrom_22 rfl (lv_at hl_b7 0 rfl) ?_
          refine lv_aload_n hx hb dX7_addFrom_23 rfl (lv_at hl_b7 1 rfl) ?_
          refine lv_iload hx hb dX7_addFrom_24 (lv_at hl_b7 3 rfl) ?_
          have hPc_5 := hP_b7.sub (ws' := [(h1, .inr (10, oX7 (.ref h2) a1_count a1_over a1_there)), (h2, .inl (k0, na1_items, .inl a1_items))]) [0, 1] rfl
          have hDc_5 := hD_b7.sub (ws' := [(h1, .inr (10, oX7 (.ref h2) a1_count a1_over a1_there)), (h2, .inl (k0, na1_items, .inl a1_items))]) [0, 1] (by decide) rfl
          have hKc_5 := hK.sub (tys' := [(k0, .int)]) [0] rfl
          have hFc_5 := va_free (wc := [(h1, .inr (10, oX7 (.ref h2) a1_count a1_over a1_there)), (h2, .inl (k0, na1_items, .inl a1_items))]) hD_b7 hS_b7 hA [0, 1] rfl
          refine va_calli (va_runV (As := [.int l4_7]) (rest := [.ref h0]) ⟨hx, hb, hml, hown, ht⟩ (mt_X7_at l dC dI h1 h2 k0 l4_7 a1_count a1_over a1_there a1_items na1_items _ ((w_b7.2 c_3).2 c_4) H_b7.size) (cwV 1 ht (goodV tw_1281 tw_908 tw_909 tw_237 gw_X7_at) rfl rfl rfl (by decide +kernel) ⟨Nat.le_of_ble_eq_true rfl, Nat.le_of_ble_eq_true rfl⟩) ⟨fun a U g mk q => by obtain ⟨q0, q1, qP, qK, qD⟩ := q; exact ⟨q0, q1, qP, va_K.moved (u := U) (U := U.calling g mk a) (Vm.Alike.refl U.vm) qK, qD⟩, va_recv hKc_5 hPc_5 (ci := 10) (q0 := 0) rfl rfl, fun U hU hW => ⟨rfl, by rw [hU], by rw [hU]; exact hPc_5, va_K.moved hW.alike hKc_5, hDc_5.weaken (fun _ _ _ _ => trivial)⟩⟩ rfl rfl hl_b7.1 rfl (lv_room (Nat.le_of_ble_eq_true rfl)) dX7_addFrom_26 ⟨Nat.le_of_ble_eq_true rfl, Nat.le_of_ble_eq_true rfl⟩) hS_b7 (fun q _ h => hFc_5 q h) hFc_5 (fun r_5 u_5 t_5 H_5 locs_5 ht_5 hvm_5 hw_5 hB_5 hz_5 hk_5 hS_5 => ?_)
          subst hw_5
          obtain ⟨w_5, hP1_5, hD1_5⟩ := hB_5
          rw [ht_5] at hP1_5
          obtain ⟨hP_5, hD_5⟩ := va_join (wr := [(h0, .inr (10, oX7 (.ref h3) v_count_7 v_over_7 v_there)), (h3, .inl (k1, nv_items, .inl v_items_7))]) (w1 := [(h1, .inr (10, oX7 (.ref h2) a1_count a1_over a1_there)), (h2, .inl (k0, na1_items, .inl a1_items))]) hP_b7 hD_b7 [0, 1] [2, 3] rfl rfl (by decide) (by decide) hk_5 hFc_5 hP1_5 hD1_5
          have hP_5 := hP_5.sub (ws' := [(h1, .inr (10, oX7 (.ref h2) a1_count a1_over a1_there)), (h2, .inl (k0, na1_items, .inl a1_items)), (h0, .inr (10, oX7 (.ref h3) v_count_7 v_over_7 v_there)), (h3, .inl (k1, nv_items, .inl v_items_7))]) [2, 3, 0, 1] rfl
          have hD_5 := hD_5.sub (ws' := [(h1, .inr (10, oX7 (.ref h2) a1_count a1_over a1_there)), (h2, .inl (k0, na1_items, .inl a1_items)), (h0, .inr (10, oX7 (.ref h3) v_count_7 v_over_7 v_there)), (h3, .inl (k1, nv_items, .inl v_items_7))]) [2, 3, 0, 1] (by decide) rfl
          clear hPc_5 hDc_5 hKc_5 hFc_5 hP1_5 hD1_5 hk_5 hz_5
          have hPc_6 := hP_5.sub (ws' := [(h0, .inr (10, oX7 (.ref h3) v_count_7 v_over_7 v_there)), (h3, .inl (k1, nv_items, .inl v_items_7))]) [2, 3] rfl
          have hDc_6 := hD_5.sub (ws' := [(h0, .inr (10, oX7 (.ref h3) v_count_7 v_over_7 v_there)), (h3, .inl (k1, nv_items, .inl v_items_7))]) [2, 3] (by decide) rfl
          have hKc_6 := hK.sub (tys' := [(k1, .int)]) [1] rfl
          have hFc_6 := va_free (wc := [(h0, .inr (10, oX7 (.ref h3) v_count_7 v_over_7 v_there)), (h3, .inl (k1, nv_items, .inl v_items_7))]) hD_5 hS_5 hA [2, 3] rfl
          refine va_callv (va_runV (As := [.int r_5]) (rest := []) ⟨hx, hb, hml, hown, ht⟩ (mt_X7_add l dC dI h0 h3 k1 r_5 v_count_7 v_over_7 v_there v_items_7 nv_items _ w_5 H_5.size) (cwV 1 ht (goodV tw_1282 tw_866 tw_867 tw_237 gw_X7_add) rfl rfl rfl (by decide +kernel) ⟨Nat.le_of_ble_eq_true rfl, Nat.le_of_ble_eq_true rfl⟩) ⟨fun a U g mk q => by obtain ⟨q0, q1, qP, qK, qD⟩ := q; exact ⟨q0, q1, qP, va_K.moved (u := U) (U := U.calling g mk a) (Vm.Alike.refl U.vm) qK, qD⟩, va_recv hKc_6 hPc_6 (ci := 10) (q0 := 0) rfl rfl, fun U hU hW => ⟨rfl, by rw [hU], by rw [hU]; exact hPc_6, va_K.moved hW.alike hKc_6, hDc_6.weaken (fun _ _ _ _ => trivial)⟩⟩ rfl rfl hl_b7.1 rfl (lv_room (Nat.le_of_ble_eq_true rfl)) dX7_addFrom_29 ⟨Nat.le_of_ble_eq_true rfl, Nat.le_of_ble_eq_true rfl⟩) hS_5 (fun q _ h => hFc_6 q h) hFc_6 (fun u_6 t_6 H_6 locs_6 ht_6 hvm_6 hw_6 hB_6 hz_6 hk_6 hS_6 => ?_)
          subst hw_6
          obtain ⟨r_6_0, r_6_1, r_6_2, w_6, hP1_6, hD1_6⟩ := hB_6
          rw [ht_6] at hP1_6
          obtain ⟨hP_6, hD_6⟩ := va_join (wr := [(h1, .inr (10, oX7 (.ref h2) a1_count a1_over a1_there)), (h2, .inl (k0, na1_items, .inl a1_items))]) (w1 := [(h0, .inr (10, oX7 (.ref h3) r_6_0 r_6_1 v_there)), (h3, .inl (k1, nv_items, .inl r_6_2))]) hP_5 hD_5 [2, 3] [0, 1] rfl rfl (by decide) (by decide) hk_6 hFc_6 hP1_6 hD1_6
          have hP_6 := hP_6.sub (ws' := [(h1, .inr (10, oX7 (.ref h2) a1_count a1_over a1_there)), (h2, .inl (k0, na1_items, .inl a1_items)), (h0, .inr (10, oX7 (.ref h3) r_6_0 r_6_1 v_there)), (h3, .inl (k1, nv_items, .inl r_6_2))]) [0, 1, 2, 3] rfl
          have hD_6 := hD_6.sub (ws' := [(h1, .inr (10, oX7 (.ref h2) a1_count a1_over a1_there)), (h2, .inl (k0, na1_items, .inl a1_items)), (h0, .inr (10, oX7 (.ref h3) r_6_0 r_6_1 v_there)), (h3, .inl (k1, nv_items, .inl r_6_2))]) [0, 1, 2, 3] (by decide) rfl
          clear hPc_6 hDc_6 hKc_6 hFc_6 hP1_6 hD1_6 hk_6 hz_6
          obtain ⟨x_7, ex_7⟩ : ∃ y : Int32, y = l4_7 + 1 := ⟨_, rfl⟩
          refine lv_iinc (v := x_7) (lv' := [(4, .int x_7), (0, .ref h0), (1, .ref h1), (3, .int p3)]) hx hb dX7_addFrom_32 hl_b7 (k := 3) rfl ex_7.symm (by decide) rfl (fun ls_7 hl_7 => ?_)
          refine lv_goto (tgt := 7) hx hb dX7_addFrom_35 (by decide) ?_
          exact ih_7 x_7 r_6_0 r_6_1 r_6_2 _ _ _ (w_6 x_7 ex_7) hP_6 hD_6 hS_6 (lv_sub hl_7 [1, 2, 3, 0] rfl)
  obtain ⟨n_8, w_8⟩ := w x_1 ex_1
  exact k_7 n_8 x_1 v_count v_over v_items _ _ _ w_8 hP hD hS (lv_sub hl_2 [1, 2, 4, 0] rfl)
def w_X7_take (a1_count : Int32) (a1_items : Nat → Int32) (na1_items : Nat) (v_items : Nat → Int32) (nv_items : Nat) (Q : Int32 → Bool → (Nat → Int32) → Prop) : Prop :=
  w_X7_empty  (fun r_1_0 r_1_1 => w_X7_addFrom 0 a1_count a1_count a1_items na1_items r_1_0 r_1_1 v_items nv_items (fun r_2_0 r_2_1 r_2_2 => Q  r_2_0 r_2_1 r_2_2))
set_option maxHeartbeats 4000000 in
set_option maxRecDepth 100000 in
theorem mt_X7_take (l : Launch) (dC : Nat → ClassId) (dI : Nat → Nat → Nat) (h0 h1 h2 h3 : Nat) (k0 k1 : ClassId) (a1_count : Int32) (a1_over : Bool) (a1_there : Bool) (a1_items : Nat → Int32) (na1_items : Nat) (v_count : Int32) (v_over : Bool) (v_there : Bool) (v_items : Nat → Int32) (nv_items : Nat) (Q : Int32 → Bool → (Nat → Int32) → Prop) (w : w_X7_take a1_count a1_items na1_items v_items nv_items Q) (sz : Nat) : Met l yX7_take (WS yX7_take cX7_take 2 none) ({ frames := 2, cells := 0, slots := 0, locals := 45 } : Room) (va_Pc [.ref h0, .ref h1] (fun U => U.heap.size = sz ∧ va_P (dC, dI) vwCl [(h1, .inr (10, oX7 (.ref h2) a1_count a1_over a1_there)), (h2, .inl (k0, na1_items, .inl a1_items)), (h0, .inr (10, oX7 (.ref h3) v_count v_over v_there)), (h3, .inl (k1, nv_items, .inl v_items))] U.heap ∧ va_K (dC, dI) vwCl [(k0, .int), (k1, .int)] U ∧ va_D (fun _ => True) [(h1, .inr (10, oX7 (.ref h2) a1_count a1_over a1_there)), (h2, .inl (k0, na1_items, .inl a1_items)), (h0, .inr (10, oX7 (.ref h3) v_count v_over v_there)), (h3, .inl (k1, nv_items, .inl v_items))])) (va_Qv (fun (u : Nat) => u = 0) (fun (_ : Nat) (t : State) => ∃ (ov_count : Int32), ∃ (ov_over : Bool), ∃ (ov_items : Nat → Int32), (Q ov_count ov_over ov_items) ∧ va_P (dC, dI) vwCl [(h1, .inr (10, oX7 (.ref h2) a1_count a1_over a1_there)), (h2, .inl (k0, na1_items, .inl a1_items)), (h0, .inr (10, oX7 (.ref h3) ov_count ov_over v_there)), (h3, .inl (k1, nv_items, .inl ov_items))] t.heap ∧ va_D (va_A [(h1, .inr (10, oX7 (.ref h2) a1_count a1_over a1_there)), (h2, .inl (k0, na1_items, .inl a1_items)), (h0, .inr (10, oX7 (.ref h3) v_count v_over v_there)), (h3, .inl (k1, nv_items, .inl v_items))] sz) [(h1, .inr (10, oX7 (.ref h2) a1_count a1_over a1_there)), (h2, .inl (k0, na1_items, .inl a1_items)), (h0, .inr (10, oX7 (.ref h3) ov_count ov_over v_there)), (h3, .inl (k1, nv_items, .inl ov_items))]) (va_A [(h1, .inr (10, oX7 (.ref h2) a1_count a1_over a1_there)), (h2, .inl (k0, na1_items, .inl a1_items)), (h0, .inr (10, oX7 (.ref h3) v_count v_over v_there)), (h3, .inl (k1, nv_items, .inl v_items))] sz)) 0 0 (va_A [(h1, .inr (10, oX7 (.ref h2) a1_count a1_over a1_there)), (h2, .inl (k0, na1_items, .inl a1_items)), (h0, .inr (10, oX7 (.ref h3) v_count v_over v_there)), (h3, .inl (k1, nv_items, .inl v_items))] sz) := by
  refine Met.ofW (cc := cX7_take) (maxL := 2) (ret := none) (by decide) rfl ?_
  intro p e s m args below meth c s₁ B hml hv
  obtain ⟨rfl, hsz, hP, hK, hD0⟩ := hv
  have hx := B.exec
  have hb := B.bytes
  have hr := B.returns
  have hts := atoms_spec (ws := WS yX7_take cX7_take 2 none) B.pre
  have ht : ∀ w ∈ TW, w.before _ s = true := fun w h => hts w (List.mem_cons_of_mem _ h)
  have hown : s.vm.findClass "PatternWorkshop$Row" = some m.cls := findClass_of_methodNamed B.named
  have hlocks := B.notSynchronized
  subst hsz
  have hD := hD0.self (sz := s.heap.size)
  generalize hAe : va_A [(h1, .inr (10, oX7 (.ref h2) a1_count a1_over a1_there)), (h2, .inl (k0, na1_items, .inl a1_items)), (h0, .inr (10, oX7 (.ref h3) v_count v_over v_there)), (h3, .inl (k1, nv_items, .inl v_items))] s.heap.size = A at hD ⊢
  have hA : ∀ q : Nat, s.heap.size ≤ q → A q := fun q h => by rw [← hAe]; exact Or.inr h
  have hS : va_S A s.heap s.heap [] := va_S.rf
  have hP : va_P (dC, dI) vwCl [(h1, .inr (10, oX7 (.ref h2) a1_count a1_over a1_there)), (h2, .inl (k0, na1_items, .inl a1_items)), (h0, .inr (10, oX7 (.ref h3) v_count v_over v_there)), (h3, .inl (k1, nv_items, .inl v_items))] s.heap := hP
  have hl := lv_entry ([.ref h0, .ref h1]) (n := 2) (Nat.le_of_ble_eq_true rfl)
  rw [lg_entry_eq]
  generalize (lg_sl ([.ref h0, .ref h1]) ++ List.replicate (2 - (lg_sl ([.ref h0, .ref h1])).length) Slot.unset).toArray = ls at hl ⊢
  have hl : lv_has ls 2 [(0, .ref h0), (1, .ref h1)] := hl
  clear hD0
  obtain ⟨QQ, hQQ⟩ : ∃ QQ, QQ = MQ below (va_Qv (fun (u : Nat) => u = 0) (fun (_ : Nat) (t : State) => ∃ (ov_count : Int32), ∃ (ov_over : Bool), ∃ (ov_items : Nat → Int32), (Q ov_count ov_over ov_items) ∧ va_P (dC, dI) vwCl [(h1, .inr (10, oX7 (.ref h2) a1_count a1_over a1_there)), (h2, .inl (k0, na1_items, .inl a1_items)), (h0, .inr (10, oX7 (.ref h3) ov_count ov_over v_there)), (h3, .inl (k1, nv_items, .inl ov_items))] t.heap ∧ va_D A [(h1, .inr (10, oX7 (.ref h2) a1_count a1_over a1_there)), (h2, .inl (k0, na1_items, .inl a1_items)), (h0, .inr (10, oX7 (.ref h3) ov_count ov_over v_there)), (h3, .inl (k1, nv_items, .inl ov_items))]) A) ([.ref h0, .ref h1]).toArray s 0 0 A := ⟨_, rfl⟩
  show W p l e ({ frames := 2, cells := 0, slots := 0, locals := 45 } : Room) s m ([.ref h0, .ref h1]).toArray below meth c s.heap [] 0 0 (MQ below (va_Qv (fun (u : Nat) => u = 0) (fun (_ : Nat) (t : State) => ∃ (ov_count : Int32), ∃ (ov_over : Bool), ∃ (ov_items : Nat → Int32), (Q ov_count ov_over ov_items) ∧ va_P (dC, dI) vwCl [(h1, .inr (10, oX7 (.ref h2) a1_count a1_over a1_there)), (h2, .inl (k0, na1_items, .inl a1_items)), (h0, .inr (10, oX7 (.ref h3) ov_count ov_over v_there)), (h3, .inl (k1, nv_items, .inl ov_items))] t.heap ∧ va_D A [(h1, .inr (10, oX7 (.ref h2) a1_count a1_over a1_there)), (h2, .inl (k0, na1_items, .inl a1_items)), (h0, .inr (10, oX7 (.ref h3) ov_count ov_over v_there)), (h3, .inl (k1, nv_items, .inl ov_items))]) A) ([.ref h0, .ref h1]).toArray s 0 0 A) (F0 m 0 ls [])
  rw [← hQQ]
  unfold w_X7_take at w
  refine lv_aload_n hx hb dX7_take_0 rfl (lv_at hl 0 rfl) ?_
  have hPc_1 := hP.sub (ws' := [(h0, .inr (10, oX7 (.ref h3) v_count v_over v_there))]) [2] rfl
  have hDc_1 := hD.sub (ws' := [(h0, .inr (10, oX7 (.ref h3) v_count v_over v_there))]) [2] (by decide) rfl
  have hKc_1 := hK.sub (tys' := []) [] rfl
  have hFc_1 := va_free (wc := [(h0, .inr (10, oX7 (.ref h3) v_count v_over v_there))]) hD hS hA [2] rfl
  refine va_callv (va_runV (As := []) (rest := []) ⟨hx, hb, hml, hown, ht⟩ (mt_X7_empty l dC dI h0 h3 v_count v_over v_there _ w s.heap.size) (cwV 0 ht (goodV tw_1276 tw_1125 tw_1126 tw_237 gw_X7_empty) rfl rfl rfl (by decide +kernel) ⟨Nat.le_of_ble_eq_true rfl, Nat.le_of_ble_eq_true rfl⟩) ⟨fun a U g mk q => by obtain ⟨q0, q1, qP, qK, qD⟩ := q; exact ⟨q0, q1, qP, va_K.moved (u := U) (U := U.calling g mk a) (Vm.Alike.refl U.vm) qK, qD⟩, va_recv hKc_1 hPc_1 (ci := 10) (q0 := 0) rfl rfl, fun U hU hW => ⟨rfl, by rw [hU], by rw [hU]; exact hPc_1, va_K.moved hW.alike hKc_1, hDc_1.weaken (fun _ _ _ _ => trivial)⟩⟩ rfl rfl hl.1 rfl (lv_room (Nat.le_of_ble_eq_true rfl)) dX7_take_1 ⟨Nat.le_of_ble_eq_true rfl, Nat.le_of_ble_eq_true rfl⟩) hS (fun q _ h => hFc_1 q h) hFc_1 (fun u_1 t_1 H_1 locs_1 ht_1 hvm_1 hw_1 hB_1 hz_1 hk_1 hS_1 => ?_)
  subst hw_1
  obtain ⟨r_1_0, r_1_1, w_1, hP1_1, hD1_1⟩ := hB_1
  rw [ht_1] at hP1_1
  obtain ⟨hP_1, hD_1⟩ := va_join (wr := [(h1, .inr (10, oX7 (.ref h2) a1_count a1_over a1_there)), (h2, .inl (k0, na1_items, .inl a1_items)), (h3, .inl (k1, nv_items, .inl v_items))]) (w1 := [(h0, .inr (10, oX7 (.ref h3) r_1_0 r_1_1 v_there))]) hP hD [2] [0, 1, 3] rfl rfl (by decide) (by decide) hk_1 hFc_1 hP1_1 hD1_1
  have hP_1 := hP_1.sub (ws' := [(h1, .inr (10, oX7 (.ref h2) a1_count a1_over a1_there)), (h2, .inl (k0, na1_items, .inl a1_items)), (h0, .inr (10, oX7 (.ref h3) r_1_0 r_1_1 v_there)), (h3, .inl (k1, nv_items, .inl v_items))]) [0, 1, 3, 2] rfl
  have hD_1 := hD_1.sub (ws' := [(h1, .inr (10, oX7 (.ref h2) a1_count a1_over a1_there)), (h2, .inl (k0, na1_items, .inl a1_items)), (h0, .inr (10, oX7 (.ref h3) r_1_0 r_1_1 v_there)), (h3, .inl (k1, nv_items, .inl v_items))]) [0, 1, 3, 2] (by decide) rfl
  clear hPc_1 hDc_1 hKc_1 hFc_1 hP1_1 hD1_1 hk_1 hz_1
  refine lv_aload_n hx hb dX7_take_4 rfl (lv_at hl 0 rfl) ?_
  refine lv_aload_n hx hb dX7_take_5 rfl (lv_at hl 1 rfl) ?_
  refine lv_iconst (v := 0) hx hb dX7_take_6 (by decide) ?_
  refine lv_aload_n hx hb dX7_take_7 rfl (lv_at hl 1 rfl) ?_
  refine va_get (D := (dC, dI)) (ci := 10) (v := .int a1_count) (C := RX7) (T := TX7) (N := 4) hx hb ht inX7 hown hK hP_1 0 rfl rfl 1 (by decide) (ht _ tw_277) (fun _ h9 => h9) rfl dX7_take_8 ?_
  have hPc_2 := hP_1.sub (ws' := [(h1, .inr (10, oX7 (.ref h2) a1_count a1_over a1_there)), (h2, .inl (k0, na1_items, .inl a1_items)), (h0, .inr (10, oX7 (.ref h3) r_1_0 r_1_1 v_there)), (h3, .inl (k1, nv_items, .inl v_items))]) [0, 1, 2, 3] rfl
  have hDc_2 := hD_1.sub (ws' := [(h1, .inr (10, oX7 (.ref h2) a1_count a1_over a1_there)), (h2, .inl (k0, na1_items, .inl a1_items)), (h0, .inr (10, oX7 (.ref h3) r_1_0 r_1_1 v_there)), (h3, .inl (k1, nv_items, .inl v_items))]) [0, 1, 2, 3] (by decide) rfl
  have hKc_2 := hK.sub (tys' := [(k0, .int), (k1, .int)]) [0, 1] rfl
  have hFc_2 := va_free (wc := [(h1, .inr (10, oX7 (.ref h2) a1_count a1_over a1_there)), (h2, .inl (k0, na1_items, .inl a1_items)), (h0, .inr (10, oX7 (.ref h3) r_1_0 r_1_1 v_there)), (h3, .inl (k1, nv_items, .inl v_items))]) hD_1 hS_1 hA [0, 1, 2, 3] rfl
  refine va_callv (va_runV (As := [.ref h1, .int 0, .int a1_count]) (rest := []) ⟨hx, hb, hml, hown, ht⟩ (mt_X7_addFrom l dC dI h0 h1 h2 h3 k0 k1 0 a1_count a1_count a1_over a1_there a1_items na1_items r_1_0 r_1_1 v_there v_items nv_items _ w_1 H_1.size) (cwV 3 ht (goodV tw_1277 tw_1278 tw_1279 tw_237 gw_X7_addFrom) rfl rfl rfl (by decide +kernel) ⟨Nat.le_of_ble_eq_true rfl, Nat.le_of_ble_eq_true rfl⟩) ⟨fun a U g mk q => by obtain ⟨q0, q1, qP, qK, qD⟩ := q; exact ⟨q0, q1, qP, va_K.moved (u := U) (U := U.calling g mk a) (Vm.Alike.refl U.vm) qK, qD⟩, va_recv hKc_2 hPc_2 (ci := 10) (q0 := 2) rfl rfl, fun U hU hW => ⟨rfl, by rw [hU], by rw [hU]; exact hPc_2, va_K.moved hW.alike hKc_2, hDc_2.weaken (fun _ _ _ _ => trivial)⟩⟩ rfl rfl hl.1 rfl (lv_room (Nat.le_of_ble_eq_true rfl)) dX7_take_11 ⟨Nat.le_of_ble_eq_true rfl, Nat.le_of_ble_eq_true rfl⟩) hS_1 (fun q _ h => hFc_2 q h) hFc_2 (fun u_2 t_2 H_2 locs_2 ht_2 hvm_2 hw_2 hB_2 hz_2 hk_2 hS_2 => ?_)
  subst hw_2
  obtain ⟨r_2_0, r_2_1, r_2_2, w_2, hP1_2, hD1_2⟩ := hB_2
  rw [ht_2] at hP1_2
  obtain ⟨hP_2, hD_2⟩ := va_join (wr := []) (w1 := [(h1, .inr (10, oX7 (.ref h2) a1_count a1_over a1_there)), (h2, .inl (k0, na1_items, .inl a1_items)), (h0, .inr (10, oX7 (.ref h3) r_2_0 r_2_1 v_there)), (h3, .inl (k1, nv_items, .inl r_2_2))]) hP_1 hD_1 [0, 1, 2, 3] [] rfl rfl (by decide) (by decide) hk_2 hFc_2 hP1_2 hD1_2
  have hP_2 := hP_2.sub (ws' := [(h1, .inr (10, oX7 (.ref h2) a1_count a1_over a1_there)), (h2, .inl (k0, na1_items, .inl a1_items)), (h0, .inr (10, oX7 (.ref h3) r_2_0 r_2_1 v_there)), (h3, .inl (k1, nv_items, .inl r_2_2))]) [0, 1, 2, 3] rfl
  have hD_2 := hD_2.sub (ws' := [(h1, .inr (10, oX7 (.ref h2) a1_count a1_over a1_there)), (h2, .inl (k0, na1_items, .inl a1_items)), (h0, .inr (10, oX7 (.ref h3) r_2_0 r_2_1 v_there)), (h3, .inl (k1, nv_items, .inl r_2_2))]) [0, 1, 2, 3] (by decide) rfl
  clear hPc_2 hDc_2 hKc_2 hFc_2 hP1_2 hD1_2 hk_2 hz_2
  rw [hQQ]
  exact W.vret hx hb hr (fun t9 ht9 hW9 => ⟨⟨0, rfl, rfl, ⟨r_2_0, r_2_1, r_2_2, w_2, by rw [ht9]; exact hP_2, hD_2⟩⟩, hS_2.F ht9⟩) hS_2.2.2 dX7_take_14
def w_X7_turnRound_58 (Q : (Nat → Int32) → Prop) (v_items_58 : Nat → Int32) : Prop :=
  Q  v_items_58
def w_X7_turnRound_9B (nv_items : Nat) (Q : (Nat → Int32) → Prop) (K9 : Int32 → Int32 → (Nat → Int32) → Prop) (l1_9 : Int32) (l2_9 : Int32) (v_items_9 : Nat → Int32) : Prop :=
  ((l2_9 ≤ l1_9) → w_X7_turnRound_58 Q v_items_9) ∧ ((¬ l2_9 ≤ l1_9) → ∀ x_5 : Int32, x_5 = Int32.ofNat nv_items → ((x_5 ≤ l2_9) → w_X7_turnRound_58 Q v_items_9) ∧ ((¬ x_5 ≤ l2_9) → vp_in l1_9 nv_items ∧ ∀ x_7 : Int32, x_7 = v_items_9 l1_9.toNatClampNeg → vp_in l2_9 nv_items ∧ ∀ x_10 : Int32, x_10 = v_items_9 l2_9.toNatClampNeg → vp_in l1_9 nv_items ∧ ∀ g_11 : Nat → Int32, g_11 = upd v_items_9 l1_9.toNatClampNeg x_10 → vp_in l2_9 nv_items ∧ ∀ g_12 : Nat → Int32, g_12 = upd g_11 l2_9.toNatClampNeg x_7 → ∀ x_13 : Int32, x_13 = l1_9 + 1 → ∀ x_14 : Int32, x_14 = l2_9 + (-1) → K9 x_13 x_14 g_12))
def w_X7_turnRound_9 (nv_items : Nat) (Q : (Nat → Int32) → Prop) : Nat → Int32 → Int32 → (Nat → Int32) → Prop
  | 0, _, _, _ => False
  | n9 + 1, l1_9, l2_9, v_items_9 => w_X7_turnRound_9B nv_items Q (w_X7_turnRound_9 nv_items Q n9) l1_9 l2_9 v_items_9
def w_X7_turnRound (v_count : Int32) (v_items : Nat → Int32) (nv_items : Nat) (Q : (Nat → Int32) → Prop) : Prop :=
  ∀ x_2 : Int32, x_2 = v_count - (1 : Int32) → ∃ k9 : Nat, w_X7_turnRound_9 nv_items Q k9 0 x_2 v_items
set_option maxHeartbeats 4000000 in
set_option maxRecDepth 100000 in
theorem mt_X7_turnRound (l : Launch) (dC : Nat → ClassId) (dI : Nat → Nat → Nat) (h0 h1 : Nat) (k0 : ClassId) (v_count : Int32) (v_over : Bool) (v_there : Bool) (v_items : Nat → Int32) (nv_items : Nat) (Q : (Nat → Int32) → Prop) (w : w_X7_turnRound v_count v_items nv_items Q) (sz : Nat) : Met l yX7_turnRound (WS yX7_turnRound cX7_turnRound 4 none) ({ frames := 0, cells := 0, slots := 0, locals := 0 } : Room) (va_Pc [.ref h0] (fun U => U.heap.size = sz ∧ va_P (dC, dI) vwCl [(h0, .inr (10, oX7 (.ref h1) v_count v_over v_there)), (h1, .inl (k0, nv_items, .inl v_items))] U.heap ∧ va_K (dC, dI) vwCl [(k0, .int)] U ∧ va_D (fun _ => True) [(h0, .inr (10, oX7 (.ref h1) v_count v_over v_there)), (h1, .inl (k0, nv_items, .inl v_items))])) (va_Qv (fun (u : Nat) => u = 0) (fun (_ : Nat) (t : State) => ∃ (ov_items : Nat → Int32), (Q ov_items) ∧ va_P (dC, dI) vwCl [(h0, .inr (10, oX7 (.ref h1) v_count v_over v_there)), (h1, .inl (k0, nv_items, .inl ov_items))] t.heap ∧ va_D (va_A [(h0, .inr (10, oX7 (.ref h1) v_count v_over v_there)), (h1, .inl (k0, nv_items, .inl v_items))] sz) [(h0, .inr (10, oX7 (.ref h1) v_count v_over v_there)), (h1, .inl (k0, nv_items, .inl ov_items))]) (va_A [(h0, .inr (10, oX7 (.ref h1) v_count v_over v_there)), (h1, .inl (k0, nv_items, .inl v_items))] sz)) 0 0 (va_A [(h0, .inr (10, oX7 (.ref h1) v_count v_over v_there)), (h1, .inl (k0, nv_items, .inl v_items))] sz) := by
  refine Met.ofW (cc := cX7_turnRound) (maxL := 4) (ret := none) (by decide) rfl ?_
  intro p e s m args below meth c s₁ B hml hv
  obtain ⟨rfl, hsz, hP, hK, hD0⟩ := hv
  have hx := B.exec
  have hb := B.bytes
  have hr := B.returns
  have hts := atoms_spec (ws := WS yX7_turnRound cX7_turnRound 4 none) B.pre
  have ht : ∀ w ∈ TW, w.before _ s = true := fun w h => hts w (List.mem_cons_of_mem _ h)
  have hown : s.vm.findClass "PatternWorkshop$Row" = some m.cls := findClass_of_methodNamed B.named
  have hlocks := B.notSynchronized
  subst hsz
  have hD := hD0.self (sz := s.heap.size)
  generalize hAe : va_A [(h0, .inr (10, oX7 (.ref h1) v_count v_over v_there)), (h1, .inl (k0, nv_items, .inl v_items))] s.heap.size = A at hD ⊢
  have hA : ∀ q : Nat, s.heap.size ≤ q → A q := fun q h => by rw [← hAe]; exact Or.inr h
  have hS : va_S A s.heap s.heap [] := va_S.rf
  have hP : va_P (dC, dI) vwCl [(h0, .inr (10, oX7 (.ref h1) v_count v_over v_there)), (h1, .inl (k0, nv_items, .inl v_items))] s.heap := hP
  have hl := lv_entry ([.ref h0]) (n := 4) (Nat.le_of_ble_eq_true rfl)
  rw [lg_entry_eq]
  generalize (lg_sl ([.ref h0]) ++ List.replicate (4 - (lg_sl ([.ref h0])).length) Slot.unset).toArray = ls at hl ⊢
  have hl : lv_has ls 4 [(0, .ref h0)] := hl
  clear hD0
  obtain ⟨QQ, hQQ⟩ : ∃ QQ, QQ = MQ below (va_Qv (fun (u : Nat) => u = 0) (fun (_ : Nat) (t : State) => ∃ (ov_items : Nat → Int32), (Q ov_items) ∧ va_P (dC, dI) vwCl [(h0, .inr (10, oX7 (.ref h1) v_count v_over v_there)), (h1, .inl (k0, nv_items, .inl ov_items))] t.heap ∧ va_D A [(h0, .inr (10, oX7 (.ref h1) v_count v_over v_there)), (h1, .inl (k0, nv_items, .inl ov_items))]) A) ([.ref h0]).toArray s 0 0 A := ⟨_, rfl⟩
  show W p l e ({ frames := 0, cells := 0, slots := 0, locals := 0 } : Room) s m ([.ref h0]).toArray below meth c s.heap [] 0 0 (MQ below (va_Qv (fun (u : Nat) => u = 0) (fun (_ : Nat) (t : State) => ∃ (ov_items : Nat → Int32), (Q ov_items) ∧ va_P (dC, dI) vwCl [(h0, .inr (10, oX7 (.ref h1) v_count v_over v_there)), (h1, .inl (k0, nv_items, .inl ov_items))] t.heap ∧ va_D A [(h0, .inr (10, oX7 (.ref h1) v_count v_over v_there)), (h1, .inl (k0, nv_items, .inl ov_items))]) A) ([.ref h0]).toArray s 0 0 A) (F0 m 0 ls [])
  rw [← hQQ]
  unfold w_X7_turnRound at w
  refine lv_iconst (v := 0) hx hb dX7_turnRound_0 (by decide) ?_
  refine lv_istore_n (lv' := [(1, .int 0), (0, .ref h0)]) hx hb dX7_turnRound_1 rfl hl (by decide) rfl (fun ls_1 hl_1 => ?_)
  clear hl
  refine lv_aload_n hx hb dX7_turnRound_2 rfl (lv_at hl_1 1 rfl) ?_
  refine va_get (D := (dC, dI)) (ci := 10) (v := .int v_count) (C := RX7) (T := TX7) (N := 4) hx hb ht inX7 hown hK hP 0 rfl rfl 1 (by decide) (ht _ tw_277) (fun _ h9 => h9) rfl dX7_turnRound_3 ?_
  refine lv_iconst (v := 1) hx hb dX7_turnRound_6 (by decide) ?_
  refine lv_isub hx hb dX7_turnRound_7 ?_
  refine lv_topi (fun x_2 ex_2 => ?_)
  have ex_2 : x_2 = v_count - (1 : Int32) := ex_2
  refine lv_istore_n (lv' := [(2, .int x_2), (1, .int 0), (0, .ref h0)]) hx hb dX7_turnRound_8 rfl hl_1 (by decide) rfl (fun ls_3 hl_3 => ?_)
  clear hl_1
  have k_9 : ∀ n_9 : Nat, ∀ (l1_9 : Int32) (l2_9 : Int32) (v_items_9 : Nat → Int32), ∀ (H_b9 : Heap) (locs_b9 : List Loc) (ls_b9 : Array Slot), w_X7_turnRound_9 nv_items Q n_9 l1_9 l2_9 v_items_9 → va_P (dC, dI) vwCl [(h0, .inr (10, oX7 (.ref h1) v_count v_over v_there)), (h1, .inl (k0, nv_items, .inl v_items_9))] H_b9 → va_D A [(h0, .inr (10, oX7 (.ref h1) v_count v_over v_there)), (h1, .inl (k0, nv_items, .inl v_items_9))] → va_S A s.heap H_b9 locs_b9 → lv_has ls_b9 4 [(0, .ref h0), (1, .int l1_9), (2, .int l2_9)] → W p l e ({ frames := 0, cells := 0, slots := 0, locals := 0 } : Room) s m ([.ref h0]).toArray below meth c H_b9 locs_b9 0 0 QQ (F0 m 9 ls_b9 []) := by
    intro n_9
    induction n_9 with
    | zero =>
      intro l1_9 l2_9 v_items_9 H_b9 locs_b9 ls_b9 w_b9 hP_b9 hD_b9 hS_b9 hl_b9
      exact False.elim (by unfold w_X7_turnRound_9 at w_b9; exact w_b9)
    | succ n_9 ih_9 =>
      intro l1_9 l2_9 v_items_9 H_b9 locs_b9 ls_b9 w_b9 hP_b9 hD_b9 hS_b9 hl_b9
      unfold w_X7_turnRound_9 at w_b9
      unfold w_X7_turnRound_9B at w_b9
      refine lv_iload_n hx hb dX7_turnRound_9 rfl (lv_at hl_b9 1 rfl) ?_
      refine lv_iload_n hx hb dX7_turnRound_10 rfl (lv_at hl_b9 2 rfl) ?_
      have k_58 : ∀ (v_items_58 : Nat → Int32), ∀ (H_b58 : Heap) (locs_b58 : List Loc) (ls_b58 : Array Slot), w_X7_turnRound_58 Q v_items_58 → va_P (dC, dI) vwCl [(h0, .inr (10, oX7 (.ref h1) v_count v_over v_there)), (h1, .inl (k0, nv_items, .inl v_items_58))] H_b58 → va_D A [(h0, .inr (10, oX7 (.ref h1) v_count v_over v_there)), (h1, .inl (k0, nv_items, .inl v_items_58))] → va_S A s.heap H_b58 locs_b58 → lv_has ls_b58 4 [] → W p l e ({ frames := 0, cells := 0, slots := 0, locals := 0 } : Room) s m ([.ref h0]).toArray below meth c H_b58 locs_b58 0 0 QQ (F0 m 58 ls_b58 []) := by
        intro v_items_58 H_b58 locs_b58 ls_b58 w_b58 hP_b58 hD_b58 hS_b58 hl_b58
        unfold w_X7_turnRound_58 at w_b58
        rw [hQQ]
        exact W.vret hx hb hr (fun t9 ht9 hW9 => ⟨⟨0, rfl, rfl, ⟨v_items_58, w_b58, by rw [ht9]; exact hP_b58, hD_b58⟩⟩, hS_b58.F ht9⟩) hS_b58.2.2 dX7_turnRound_58
      refine lv_icmp_ge (tgt := 58) hx hb dX7_turnRound_11 (by decide) (fun c_4 => ?_) (fun c_4 => ?_)
      · exact k_58 v_items_9 _ _ _ (w_b9.1 c_4) hP_b9 hD_b9 hS_b9 (lv_sub hl_b9 [] rfl)
      · refine lv_iload_n hx hb dX7_turnRound_14 rfl (lv_at hl_b9 2 rfl) ?_
        refine lv_aload_n hx hb dX7_turnRound_15 rfl (lv_at hl_b9 0 rfl) ?_
        refine va_get (D := (dC, dI)) (ci := 10) (v := .ref h1) (C := RX7) (T := TX7) (N := 4) hx hb ht inX7 hown hK hP_b9 0 rfl rfl 0 (by decide) (ht _ tw_276) (fun _ h9 => h9) rfl dX7_turnRound_16 ?_
        refine va_alen hx hb hK hP_b9 1 0 rfl rfl rfl dX7_turnRound_19 ?_
        refine lv_topi (fun x_5 ex_5 => ?_)
        have ex_5 : x_5 = Int32.ofNat nv_items := ex_5
        refine lv_icmp_ge (tgt := 58) hx hb dX7_turnRound_20 (by decide) (fun c_6 => ?_) (fun c_6 => ?_)
        · exact k_58 v_items_9 _ _ _ ((w_b9.2 c_4 x_5 ex_5).1 c_6) hP_b9 hD_b9 hS_b9 (lv_sub hl_b9 [] rfl)
        · refine lv_aload_n hx hb dX7_turnRound_23 rfl (lv_at hl_b9 0 rfl) ?_
          refine va_get (D := (dC, dI)) (ci := 10) (v := .ref h1) (C := RX7) (T := TX7) (N := 4) hx hb ht inX7 hown hK hP_b9 0 rfl rfl 0 (by decide) (ht _ tw_276) (fun _ h9 => h9) rfl dX7_turnRound_24 ?_
          refine lv_iload_n hx hb dX7_turnRound_27 rfl (lv_at hl_b9 1 rfl) ?_
          refine va_iald hx hb hK hP_b9 1 0 rfl rfl (i := l1_9) ((w_b9.2 c_4 x_5 ex_5).2 c_6).1 dX7_turnRound_28 ?_
          refine lv_topi (fun x_7 ex_7 => ?_)
          have ex_7 : x_7 = v_items_9 l1_9.toNatClampNeg := ex_7
          refine lv_istore_n (lv' := [(3, .int x_7), (0, .ref h0), (1, .int l1_9), (2, .int l2_9)]) hx hb dX7_turnRound_29 rfl hl_b9 (by decide) rfl (fun ls_8 hl_8 => ?_)
          clear hl_b9
          refine lv_aload_n hx hb dX7_turnRound_30 rfl (lv_at hl_8 1 rfl) ?_
          refine va_get (D := (dC, dI)) (ci := 10) (v := .ref h1) (C := RX7) (T := TX7) (N := 4) hx hb ht inX7 hown hK hP_b9 0 rfl rfl 0 (by decide) (ht _ tw_276) (fun _ h9 => h9) rfl dX7_turnRound_31 ?_
          refine lv_iload_n hx hb dX7_turnRound_34 rfl (lv_at hl_8 2 rfl) ?_
          refine lv_aload_n hx hb dX7_turnRound_35 rfl (lv_at hl_8 1 rfl) ?_
          refine va_get (D := (dC, dI)) (ci := 10) (v := .ref h1) (C := RX7) (T := TX7) (N := 4) hx hb ht inX7 hown hK hP_b9 0 rfl rfl 0 (by decide) (ht _ tw_276) (fun _ h9 => h9) rfl dX7_turnRound_36 ?_
          refine lv_iload_n hx hb dX7_turnRound_39 rfl (lv_at hl_8 3 rfl) ?_
          have w_9 := (((w_b9.2 c_4 x_5 ex_5).2 c_6).2) x_7 ex_7
          refine va_iald hx hb hK hP_b9 1 0 rfl rfl (i := l2_9) w_9.1 dX7_turnRound_40 ?_
          refine lv_topi (fun x_10 ex_10 => ?_)
          have ex_10 : x_10 = v_items_9 l2_9.toNatClampNeg := ex_10
          refine va_iast hx hb hK hP_b9 hD_b9 hS_b9 1 0 rfl rfl (i := l1_9) (w_9.2 x_10 ex_10).1 dX7_turnRound_41 (fun H_11 locs_11 hP_11 hD_11 hS_11 => ?_)
          obtain ⟨g_11, hg_11⟩ : ∃ g : Nat → Int32, g = upd v_items_9 l1_9.toNatClampNeg x_10 := ⟨_, rfl⟩
          have hP_11 : va_P (dC, dI) vwCl [(h0, .inr (10, oX7 (.ref h1) v_count v_over v_there)), (h1, .inl (k0, nv_items, .inl g_11))] H_11 := by rw [hg_11]; exact hP_11
          have hD_11 : va_D A [(h0, .inr (10, oX7 (.ref h1) v_count v_over v_there)), (h1, .inl (k0, nv_items, .inl g_11))] := by rw [hg_11]; exact hD_11
          refine lv_aload_n hx hb dX7_turnRound_42 rfl (lv_at hl_8 1 rfl) ?_
          refine va_get (D := (dC, dI)) (ci := 10) (v := .ref h1) (C := RX7) (T := TX7) (N := 4) hx hb ht inX7 hown hK hP_11 0 rfl rfl 0 (by decide) (ht _ tw_276) (fun _ h9 => h9) rfl dX7_turnRound_43 ?_
          refine lv_iload_n hx hb dX7_turnRound_46 rfl (lv_at hl_8 3 rfl) ?_
          refine lv_iload_n hx hb dX7_turnRound_47 rfl (lv_at hl_8 0 rfl) ?_
          refine va_iast hx hb hK hP_11 hD_11 hS_11 1 0 rfl rfl (i := l2_9) (((w_9.2 x_10 ex_10).2) g_11 hg_11).1 dX7_turnRound_48 (fun H_12 locs_12 hP_12 hD_12 hS_12 => ?_)
          obtain ⟨g_12, hg_12⟩ : ∃ g : Nat → Int32, g = upd g_11 l2_9.toNatClampNeg x_7 := ⟨_, rfl⟩
          have hP_12 : va_P (dC, dI) vwCl [(h0, .inr (10, oX7 (.ref h1) v_count v_over v_there)), (h1, .inl (k0, nv_items, .inl g_12))] H_12 := by rw [hg_12]; exact hP_12
          have hD_12 : va_D A [(h0, .inr (10, oX7 (.ref h1) v_count v_over v_there)), (h1, .inl (k0, nv_items, .inl g_12))] := by rw [hg_12]; exact hD_12
          obtain ⟨x_13, ex_13⟩ : ∃ y : Int32, y = l1_9 + 1 := ⟨_, rfl⟩
          refine lv_iinc (v := x_13) (lv' := [(1, .int x_13), (3, .int x_7), (0, .ref h0), (2, .int l2_9)]) hx hb dX7_turnRound_49 hl_8 (k := 2) rfl ex_13.symm (by decide) rfl (fun ls_13 hl_13 => ?_)
          obtain ⟨x_14, ex_14⟩ : ∃ y : Int32, y = l2_9 + (-1) := ⟨_, rfl⟩
          refine lv_iinc (v := x_14) (lv' := [(2, .int x_14), (1, .int x_13), (3, .int x_7), (0, .ref h0)]) hx hb dX7_turnRound_52 hl_13 (k := 3) rfl ex_14.symm (by decide) rfl (fun ls_14 hl_14 => ?_)
          refine lv_goto (tgt := 9) hx hb dX7_turnRound_55 (by decide) ?_
          have w_15 := ((((((w_9.2 x_10 ex_10).2) g_11 hg_11).2) g_12 hg_12) x_13 ex_13) x_14 ex_14
          exact ih_9 x_13 x_14 g_12 _ _ _ w_15 hP_12 hD_12 hS_12 (lv_sub hl_14 [3, 1, 0] rfl)
  obtain ⟨n_16, w_16⟩ := w x_2 ex_2
  exact k_9 n_16 0 x_2 v_items _ _ _ w_16 hP hD hS (lv_sub hl_3 [2, 1, 0] rfl)
def w_X10_rangeCount (v_ranges : Int32) (Q : Int32 → Prop) : Prop :=
  Q v_ranges
set_option maxHeartbeats 4000000 in
set_option maxRecDepth 100000 in
theorem mt_X10_rangeCount (l : Launch) (dC : Nat → ClassId) (dI : Nat → Nat → Nat) (h0 h1 h2 h3 h4 h5 h6 h7 h8 h9 h10 h11 h12 h13 h14 h15 h16 : Nat) (v_there : Bool) (v_count : Int32) (v_captures : Int32) (v_ranges : Int32) (Q : Int32 → Prop) (w : w_X10_rangeCount v_ranges Q) (sz : Nat) : Met l yX10_rangeCount (WS yX10_rangeCount cX10_rangeCount 1 (some (.int))) ({ frames := 0, cells := 0, slots := 0, locals := 0 } : Room) (va_Pc [.ref h0] (fun U => U.heap.size = sz ∧ va_P (dC, dI) vwCl [(h0, .inr (13, oX10 v_there v_count v_captures v_ranges (.ref h1) (.ref h2) (.ref h3) (.ref h4) (.ref h5) (.ref h6) (.ref h7) (.ref h8) (.ref h9) (.ref h10) (.ref h11) (.ref h12) (.ref h13) (.ref h14) (.ref h15) (.ref h16)))] U.heap ∧ va_K (dC, dI) vwCl [] U ∧ va_D (fun _ => True) [(h0, .inr (13, oX10 v_there v_count v_captures v_ranges (.ref h1) (.ref h2) (.ref h3) (.ref h4) (.ref h5) (.ref h6) (.ref h7) (.ref h8) (.ref h9) (.ref h10) (.ref h11) (.ref h12) (.ref h13) (.ref h14) (.ref h15) (.ref h16)))])) (va_Qi (fun (r u : Int32) => r = u) (fun (u : Int32) (t : State) => (Q u) ∧ va_P (dC, dI) vwCl [(h0, .inr (13, oX10 v_there v_count v_captures v_ranges (.ref h1) (.ref h2) (.ref h3) (.ref h4) (.ref h5) (.ref h6) (.ref h7) (.ref h8) (.ref h9) (.ref h10) (.ref h11) (.ref h12) (.ref h13) (.ref h14) (.ref h15) (.ref h16)))] t.heap ∧ va_D (va_A [(h0, .inr (13, oX10 v_there v_count v_captures v_ranges (.ref h1) (.ref h2) (.ref h3) (.ref h4) (.ref h5) (.ref h6) (.ref h7) (.ref h8) (.ref h9) (.ref h10) (.ref h11) (.ref h12) (.ref h13) (.ref h14) (.ref h15) (.ref h16)))] sz) [(h0, .inr (13, oX10 v_there v_count v_captures v_ranges (.ref h1) (.ref h2) (.ref h3) (.ref h4) (.ref h5) (.ref h6) (.ref h7) (.ref h8) (.ref h9) (.ref h10) (.ref h11) (.ref h12) (.ref h13) (.ref h14) (.ref h15) (.ref h16)))]) (va_A [(h0, .inr (13, oX10 v_there v_count v_captures v_ranges (.ref h1) (.ref h2) (.ref h3) (.ref h4) (.ref h5) (.ref h6) (.ref h7) (.ref h8) (.ref h9) (.ref h10) (.ref h11) (.ref h12) (.ref h13) (.ref h14) (.ref h15) (.ref h16)))] sz)) 0 0 (va_A [(h0, .inr (13, oX10 v_there v_count v_captures v_ranges (.ref h1) (.ref h2) (.ref h3) (.ref h4) (.ref h5) (.ref h6) (.ref h7) (.ref h8) (.ref h9) (.ref h10) (.ref h11) (.ref h12) (.ref h13) (.ref h14) (.ref h15) (.ref h16)))] sz) := by
  refine Met.ofW (cc := cX10_rangeCount) (maxL := 1) (ret := (some (.int))) (by decide) rfl ?_
  intro p e s m args below meth c s₁ B hml hv
  obtain ⟨rfl, hsz, hP, hK, hD0⟩ := hv
  have hx := B.exec
  have hb := B.bytes
  have hr := B.returns
  have hts := atoms_spec (ws := WS yX10_rangeCount cX10_rangeCount 1 (some (.int))) B.pre
  have ht : ∀ w ∈ TW, w.before _ s = true := fun w h => hts w (List.mem_cons_of_mem _ h)
  have hown : s.vm.findClass "PatternWorkshop$Tree" = some m.cls := findClass_of_methodNamed B.named
  have hlocks := B.notSynchronized
  subst hsz
  have hD := hD0.self (sz := s.heap.size)
  generalize hAe : va_A [(h0, .inr (13, oX10 v_there v_count v_captures v_ranges (.ref h1) (.ref h2) (.ref h3) (.ref h4) (.ref h5) (.ref h6) (.ref h7) (.ref h8) (.ref h9) (.ref h10) (.ref h11) (.ref h12) (.ref h13) (.ref h14) (.ref h15) (.ref h16)))] s.heap.size = A at hD ⊢
  have hA : ∀ q : Nat, s.heap.size ≤ q → A q := fun q h => by rw [← hAe]; exact Or.inr h
  have hS : va_S A s.heap s.heap [] := va_S.rf
  have hP : va_P (dC, dI) vwCl [(h0, .inr (13, oX10 v_there v_count v_captures v_ranges (.ref h1) (.ref h2) (.ref h3) (.ref h4) (.ref h5) (.ref h6) (.ref h7) (.ref h8) (.ref h9) (.ref h10) (.ref h11) (.ref h12) (.ref h13) (.ref h14) (.ref h15) (.ref h16)))] s.heap := hP
  have hl := lv_entry ([.ref h0]) (n := 1) (Nat.le_of_ble_eq_true rfl)
  rw [lg_entry_eq]
  generalize (lg_sl ([.ref h0]) ++ List.replicate (1 - (lg_sl ([.ref h0])).length) Slot.unset).toArray = ls at hl ⊢
  have hl : lv_has ls 1 [(0, .ref h0)] := hl
  clear hD0
  obtain ⟨QQ, hQQ⟩ : ∃ QQ, QQ = MQ below (va_Qi (fun (r u : Int32) => r = u) (fun (u : Int32) (t : State) => (Q u) ∧ va_P (dC, dI) vwCl [(h0, .inr (13, oX10 v_there v_count v_captures v_ranges (.ref h1) (.ref h2) (.ref h3) (.ref h4) (.ref h5) (.ref h6) (.ref h7) (.ref h8) (.ref h9) (.ref h10) (.ref h11) (.ref h12) (.ref h13) (.ref h14) (.ref h15) (.ref h16)))] t.heap ∧ va_D A [(h0, .inr (13, oX10 v_there v_count v_captures v_ranges (.ref h1) (.ref h2) (.ref h3) (.ref h4) (.ref h5) (.ref h6) (.ref h7) (.ref h8) (.ref h9) (.ref h10) (.ref h11) (.ref h12) (.ref h13) (.ref h14) (.ref h15) (.ref h16)))]) A) ([.ref h0]).toArray s 0 0 A := ⟨_, rfl⟩
  show W p l e ({ frames := 0, cells := 0, slots := 0, locals := 0 } : Room) s m ([.ref h0]).toArray below meth c s.heap [] 0 0 (MQ below (va_Qi (fun (r u : Int32) => r = u) (fun (u : Int32) (t : State) => (Q u) ∧ va_P (dC, dI) vwCl [(h0, .inr (13, oX10 v_there v_count v_captures v_ranges (.ref h1) (.ref h2) (.ref h3) (.ref h4) (.ref h5) (.ref h6) (.ref h7) (.ref h8) (.ref h9) (.ref h10) (.ref h11) (.ref h12) (.ref h13) (.ref h14) (.ref h15) (.ref h16)))] t.heap ∧ va_D A [(h0, .inr (13, oX10 v_there v_count v_captures v_ranges (.ref h1) (.ref h2) (.ref h3) (.ref h4) (.ref h5) (.ref h6) (.ref h7) (.ref h8) (.ref h9) (.ref h10) (.ref h11) (.ref h12) (.ref h13) (.ref h14) (.ref h15) (.ref h16)))]) A) ([.ref h0]).toArray s 0 0 A) (F0 m 0 ls [])
  rw [← hQQ]
  unfold w_X10_rangeCount at w
  refine lv_aload_n hx hb dX10_rangeCount_0 rfl (lv_at hl 0 rfl) ?_
  refine va_get (D := (dC, dI)) (ci := 13) (v := .int v_ranges) (C := RX10) (T := TX10) (N := 20) hx hb ht inX10 hown hK hP 0 rfl rfl 3 (by decide) (ht _ tw_326) (fun _ h9 => h9) rfl dX10_rangeCount_1 ?_
  rw [hQQ]
  exact W.iret (v := v_ranges) hx hb hr (fun t9 ht9 hW9 => ⟨⟨v_ranges, v_ranges, rfl, rfl, ⟨w, by rw [ht9]; exact hP, hD⟩⟩, hS.F ht9⟩) hS.2.2 dX10_rangeCount_4
def w_X10_sortOf_22 (Q : Int32 → Prop) (s0_22 : Int32) : Prop :=
  Q s0_22
def w_X10_sortOf_21 (Q : Int32 → Prop) : Prop :=
  w_X10_sortOf_22 Q 5
def w_X10_sortOf (p1 : Int32) (v_count : Int32) (v_sort : Nat → Int32) (Q : Int32 → Prop) : Prop :=
  ((p1 < 0) → w_X10_sortOf_21 Q) ∧ ((¬ p1 < 0) → ((v_count ≤ p1) → w_X10_sortOf_21 Q) ∧ ((¬ v_count ≤ p1) → vp_in p1 256 ∧ ∀ x_3 : Int32, x_3 = v_sort p1.toNatClampNeg → w_X10_sortOf_22 Q x_3))
set_option maxHeartbeats 4000000 in
set_option maxRecDepth 100000 in
theorem mt_X10_sortOf (l : Launch) (dC : Nat → ClassId) (dI : Nat → Nat → Nat) (h0 h1 h2 h3 h4 h5 h6 h7 h8 h9 h10 h11 h12 h13 h14 h15 h16 : Nat) (k0 : ClassId) (p1 : Int32) (v_there : Bool) (v_count : Int32) (v_captures : Int32) (v_ranges : Int32) (v_sort : Nat → Int32) (Q : Int32 → Prop) (w : w_X10_sortOf p1 v_count v_sort Q) (sz : Nat) : Met l yX10_sortOf (WS yX10_sortOf cX10_sortOf 2 (some (.int))) ({ frames := 0, cells := 0, slots := 0, locals := 0 } : Room) (va_Pc [.ref h0, .int p1] (fun U => U.heap.size = sz ∧ va_P (dC, dI) vwCl [(h0, .inr (13, oX10 v_there v_count v_captures v_ranges (.ref h1) (.ref h2) (.ref h3) (.ref h4) (.ref h5) (.ref h6) (.ref h7) (.ref h8) (.ref h9) (.ref h10) (.ref h11) (.ref h12) (.ref h13) (.ref h14) (.ref h15) (.ref h16))), (h1, .inl (k0, 256, .inl v_sort))] U.heap ∧ va_K (dC, dI) vwCl [(k0, .int)] U ∧ va_D (fun _ => True) [(h0, .inr (13, oX10 v_there v_count v_captures v_ranges (.ref h1) (.ref h2) (.ref h3) (.ref h4) (.ref h5) (.ref h6) (.ref h7) (.ref h8) (.ref h9) (.ref h10) (.ref h11) (.ref h12) (.ref h13) (.ref h14) (.ref h15) (.ref h16))), (h1, .inl (k0, 256, .inl v_sort))])) (va_Qi (fun (r u : Int32) => r = u) (fun (u : Int32) (t : State) => (Q u) ∧ va_P (dC, dI) vwCl [(h0, .inr (13, oX10 v_there v_count v_captures v_ranges (.ref h1) (.ref h2) (.ref h3) (.ref h4) (.ref h5) (.ref h6) (.ref h7) (.ref h8) (.ref h9) (.ref h10) (.ref h11) (.ref h12) (.ref h13) (.ref h14) (.ref h15) (.ref h16))), (h1, .inl (k0, 256, .inl v_sort))] t.heap ∧ va_D (va_A [(h0, .inr (13, oX10 v_there v_count v_captures v_ranges (.ref h1) (.ref h2) (.ref h3) (.ref h4) (.ref h5) (.ref h6) (.ref h7) (.ref h8) (.ref h9) (.ref h10) (.ref h11) (.ref h12) (.ref h13) (.ref h14) (.ref h15) (.ref h16))), (h1, .inl (k0, 256, .inl v_sort))] sz) [(h0, .inr (13, oX10 v_there v_count v_captures v_ranges (.ref h1) (.ref h2) (.ref h3) (.ref h4) (.ref h5) (.ref h6) (.ref h7) (.ref h8) (.ref h9) (.ref h10) (.ref h11) (.ref h12) (.ref h13) (.ref h14) (.ref h15) (.ref h16))), (h1, .inl (k0, 256, .inl v_sort))]) (va_A [(h0, .inr (13, oX10 v_there v_count v_captures v_ranges (.ref h1) (.ref h2) (.ref h3) (.ref h4) (.ref h5) (.ref h6) (.ref h7) (.ref h8) (.ref h9) (.ref h10) (.ref h11) (.ref h12) (.ref h13) (.ref h14) (.ref h15) (.ref h16))), (h1, .inl (k0, 256, .inl v_sort))] sz)) 0 0 (va_A [(h0, .inr (13, oX10 v_there v_count v_captures v_ranges (.ref h1) (.ref h2) (.ref h3) (.ref h4) (.ref h5) (.ref h6) (.ref h7) (.ref h8) (.ref h9) (.ref h10) (.ref h11) (.ref h12) (.ref h13) (.ref h14) (.ref h15) (.ref h16))), (h1, .inl (k0, 256, .inl v_sort))] sz) := by
  refine Met.ofW (cc := cX10_sortOf) (maxL := 2) (ret := (some (.int))) (by decide) rfl ?_
  intro p e s m args below meth c s₁ B hml hv
  obtain ⟨rfl, hsz, hP, hK, hD0⟩ := hv
  have hx := B.exec
  have hb := B.bytes
  have hr := B.returns
  have hts := atoms_spec (ws := WS yX10_sortOf cX10_sortOf 2 (some (.int))) B.pre
  have ht : ∀ w ∈ TW, w.before _ s = true := fun w h => hts w (List.mem_cons_of_mem _ h)
  have hown : s.vm.findClass "PatternWorkshop$Tree" = some m.cls := findClass_of_methodNamed B.named
  have hlocks := B.notSynchronized
  subst hsz
  have hD := hD0.self (sz := s.heap.size)
  generalize hAe : va_A [(h0, .inr (13, oX10 v_there v_count v_captures v_ranges (.ref h1) (.ref h2) (.ref h3) (.ref h4) (.ref h5) (.ref h6) (.ref h7) (.ref h8) (.ref h9) (.ref h10) (.ref h11) (.ref h12) (.ref h13) (.ref h14) (.ref h15) (.ref h16))), (h1, .inl (k0, 256, .inl v_sort))] s.heap.size = A at hD ⊢
  have hA : ∀ q : Nat, s.heap.size ≤ q → A q := fun q h => by rw [← hAe]; exact Or.inr h
  have hS : va_S A s.heap s.heap [] := va_S.rf
  have hP : va_P (dC, dI) vwCl [(h0, .inr (13, oX10 v_there v_count v_captures v_ranges (.ref h1) (.ref h2) (.ref h3) (.ref h4) (.ref h5) (.ref h6) (.ref h7) (.ref h8) (.ref h9) (.ref h10) (.ref h11) (.ref h12) (.ref h13) (.ref h14) (.ref h15) (.ref h16))), (h1, .inl (k0, 256, .inl v_sort))] s.heap := hP
  have hl := lv_entry ([.ref h0, .int p1]) (n := 2) (Nat.le_of_ble_eq_true rfl)
  rw [lg_entry_eq]
  generalize (lg_sl ([.ref h0, .int p1]) ++ List.replicate (2 - (lg_sl ([.ref h0, .int p1])).length) Slot.unset).toArray = ls at hl ⊢
  have hl : lv_has ls 2 [(0, .ref h0), (1, .int p1)] := hl
  clear hD0
  obtain ⟨QQ, hQQ⟩ : ∃ QQ, QQ = MQ below (va_Qi (fun (r u : Int32) => r = u) (fun (u : Int32) (t : State) => (Q u) ∧ va_P (dC, dI) vwCl [(h0, .inr (13, oX10 v_there v_count v_captures v_ranges (.ref h1) (.ref h2) (.ref h3) (.ref h4) (.ref h5) (.ref h6) (.ref h7) (.ref h8) (.ref h9) (.ref h10) (.ref h11) (.ref h12) (.ref h13) (.ref h14) (.ref h15) (.ref h16))), (h1, .inl (k0, 256, .inl v_sort))] t.heap ∧ va_D A [(h0, .inr (13, oX10 v_there v_count v_captures v_ranges (.ref h1) (.ref h2) (.ref h3) (.ref h4) (.ref h5) (.ref h6) (.ref h7) (.ref h8) (.ref h9) (.ref h10) (.ref h11) (.ref h12) (.ref h13) (.ref h14) (.ref h15) (.ref h16))), (h1, .inl (k0, 256, .inl v_sort))]) A) ([.ref h0, .int p1]).toArray s 0 0 A := ⟨_, rfl⟩
  show W p l e ({ frames := 0, cells := 0, slots := 0, locals := 0 } : Room) s m ([.ref h0, .int p1]).toArray below meth c s.heap [] 0 0 (MQ below (va_Qi (fun (r u : Int32) => r = u) (fun (u : Int32) (t : State) => (Q u) ∧ va_P (dC, dI) vwCl [(h0, .inr (13, oX10 v_there v_count v_captures v_ranges (.ref h1) (.ref h2) (.ref h3) (.ref h4) (.ref h5) (.ref h6) (.ref h7) (.ref h8) (.ref h9) (.ref h10) (.ref h11) (.ref h12) (.ref h13) (.ref h14) (.ref h15) (.ref h16))), (h1, .inl (k0, 256, .inl v_sort))] t.heap ∧ va_D A [(h0, .inr (13, oX10 v_there v_count v_captures v_ranges (.ref h1) (.ref h2) (.ref h3) (.ref h4) (.ref h5) (.ref h6) (.ref h7) (.ref h8) (.ref h9) (.ref h10) (.ref h11) (.ref h12) (.ref h13) (.ref h14) (.ref h15) (.ref h16))), (h1, .inl (k0, 256, .inl v_sort))]) A) ([.ref h0, .int p1]).toArray s 0 0 A) (F0 m 0 ls [])
  rw [← hQQ]
  unfold w_X10_sortOf at w
  refine lv_iload_n hx hb dX10_sortOf_0 rfl (lv_at hl 1 rfl) ?_
  have k_22 : ∀ (s0_22 : Int32), ∀ (H_b22 : Heap) (locs_b22 : List Loc) (ls_b22 : Array Slot), w_X10_sortOf_22 Q s0_22 → va_P (dC, dI) vwCl [(h0, .inr (13, oX10 v_there v_count v_captures v_ranges (.ref h1) (.ref h2) (.ref h3) (.ref h4) (.ref h5) (.ref h6) (.ref h7) (.ref h8) (.ref h9) (.ref h10) (.ref h11) (.ref h12) (.ref h13) (.ref h14) (.ref h15) (.ref h16))), (h1, .inl (k0, 256, .inl v_sort))] H_b22 → va_D A [(h0, .inr (13, oX10 v_there v_count v_captures v_ranges (.ref h1) (.ref h2) (.ref h3) (.ref h4) (.ref h5) (.ref h6) (.ref h7) (.ref h8) (.ref h9) (.ref h10) (.ref h11) (.ref h12) (.ref h13) (.ref h14) (.ref h15) (.ref h16))), (h1, .inl (k0, 256, .inl v_sort))] → va_S A s.heap H_b22 locs_b22 → lv_has ls_b22 2 [] → W p l e ({ frames := 0, cells := 0, slots := 0, locals := 0 } : Room) s m ([.ref h0, .int p1]).toArray below meth c H_b22 locs_b22 0 0 QQ (F0 m 22 ls_b22 [.int s0_22]) := by
    intro s0_22 H_b22 locs_b22 ls_b22 w_b22 hP_b22 hD_b22 hS_b22 hl_b22
    unfold w_X10_sortOf_22 at w_b22
    rw [hQQ]
    exact W.iret (v := s0_22) hx hb hr (fun t9 ht9 hW9 => ⟨⟨s0_22, s0_22, rfl, rfl, ⟨w_b22, by rw [ht9]; exact hP_b22, hD_b22⟩⟩, hS_b22.F ht9⟩) hS_b22.2.2 dX10_sortOf_22
  have k_21 : ∀ (H_b21 : Heap) (locs_b21 : List Loc) (ls_b21 : Array Slot), w_X10_sortOf_21 Q → va_P (dC, dI) vwCl [(h0, .inr (13, oX10 v_there v_count v_captures v_ranges (.ref h1) (.ref h2) (.ref h3) (.ref h4) (.ref h5) (.ref h6) (.ref h7) (.ref h8) (.ref h9) (.ref h10) (.ref h11) (.ref h12) (.ref h13) (.ref h14) (.ref h15) (.ref h16))), (h1, .inl (k0, 256, .inl v_sort))] H_b21 → va_D A [(h0, .inr (13, oX10 v_there v_count v_captures v_ranges (.ref h1) (.ref h2) (.ref h3) (.ref h4) (.ref h5) (.ref h6) (.ref h7) (.ref h8) (.ref h9) (.ref h10) (.ref h11) (.ref h12) (.ref h13) (.ref h14) (.ref h15) (.ref h16))), (h1, .inl (k0, 256, .inl v_sort))] → va_S A s.heap H_b21 locs_b21 → lv_has ls_b21 2 [] → W p l e ({ frames := 0, cells := 0, slots := 0, locals := 0 } : Room) s m ([.ref h0, .int p1]).toArray below meth c H_b21 locs_b21 0 0 QQ (F0 m 21 ls_b21 []) := by
    intro  H_b21 locs_b21 ls_b21 w_b21 hP_b21 hD_b21 hS_b21 hl_b21
    unfold w_X10_sortOf_21 at w_b21
    refine lv_iconst (v := 5) hx hb dX10_sortOf_21 (by decide) ?_
    exact k_22 5 _ _ _ w_b21 hP_b21 hD_b21 hS_b21 (lv_sub hl_b21 [] rfl)
  refine lv_if_lt (tgt := 21) hx hb dX10_sortOf_1 (by decide) (fun c_1 => ?_) (fun c_1 => ?_)
  · exact k_21  _ _ _ (w.1 c_1) hP hD hS (lv_sub hl [] rfl)
  · refine lv_iload_n hx hb dX10_sortOf_4 rfl (lv_at hl 1 rfl) ?_
    refine lv_aload_n hx hb dX10_sortOf_5 rfl (lv_at hl 0 rfl) ?_
    refine va_get (D := (dC, dI)) (ci := 13) (v := .int v_count) (C := RX10) (T := TX10) (N := 20) hx hb ht inX10 hown hK hP 0 rfl rfl 1 (by decide) (ht _ tw_319) (fun _ h9 => h9) rfl dX10_sortOf_6 ?_
    refine lv_icmp_ge (tgt := 21) hx hb dX10_sortOf_9 (by decide) (fun c_2 => ?_) (fun c_2 => ?_)
    · exact k_21  _ _ _ ((w.2 c_1).1 c_2) hP hD hS (lv_sub hl [] rfl)
    · refine lv_aload_n hx hb dX10_sortOf_12 rfl (lv_at hl 0 rfl) ?_
      refine va_get (D := (dC, dI)) (ci := 13) (v := .ref h1) (C := RX10) (T := TX10) (N := 20) hx hb ht inX10 hown hK hP 0 rfl rfl 4 (by decide) (ht _ tw_327) (fun _ h9 => h9) rfl dX10_sortOf_13 ?_
      refine lv_iload_n hx hb dX10_sortOf_16 rfl (lv_at hl 1 rfl) ?_
      refine va_iald hx hb hK hP 1 0 rfl rfl (i := p1) ((w.2 c_1).2 c_2).1 dX10_sortOf_17 ?_
      refine lv_topi (fun x_3 ex_3 => ?_)
      have ex_3 : x_3 = v_sort p1.toNatClampNeg := ex_3
      refine lv_goto (tgt := 22) hx hb dX10_sortOf_18 (by decide) ?_
      exact k_22 x_3 _ _ _ ((((w.2 c_1).2 c_2).2) x_3 ex_3) hP hD hS (lv_sub hl [] rfl)
def w_X10_takesOneSign_14 (Q : Int32 → Prop) (s0_14 : Int32) : Prop :=
  (s0_14 = 0 ∨ s0_14 = 1) ∧ Q s0_14
def w_X10_takesOneSign (p1 : Int32) (v_count : Int32) (v_sort : Nat → Int32) (Q : Int32 → Prop) : Prop :=
  w_X10_sortOf p1 v_count v_sort (fun r_1 => ((2 < r_1) → w_X10_takesOneSign_14 Q 0) ∧ ((¬ 2 < r_1) → w_X10_takesOneSign_14 Q 1))
set_option maxHeartbeats 4000000 in
set_option maxRecDepth 100000 in
theorem mt_X10_takesOneSign (l : Launch) (dC : Nat → ClassId) (dI : Nat → Nat → Nat) (h0 h1 h2 h3 h4 h5 h6 h7 h8 h9 h10 h11 h12 h13 h14 h15 h16 : Nat) (k0 : ClassId) (p1 : Int32) (v_there : Bool) (v_count : Int32) (v_captures : Int32) (v_ranges : Int32) (v_sort : Nat → Int32) (Q : Int32 → Prop) (w : w_X10_takesOneSign p1 v_count v_sort Q) (sz : Nat) : Met l yX10_takesOneSign (WS yX10_takesOneSign cX10_takesOneSign 2 (some (.boolean))) ({ frames := 1, cells := 0, slots := 0, locals := 21 } : Room) (va_Pc [.ref h0, .int p1] (fun U => U.heap.size = sz ∧ va_P (dC, dI) vwCl [(h0, .inr (13, oX10 v_there v_count v_captures v_ranges (.ref h1) (.ref h2) (.ref h3) (.ref h4) (.ref h5) (.ref h6) (.ref h7) (.ref h8) (.ref h9) (.ref h10) (.ref h11) (.ref h12) (.ref h13) (.ref h14) (.ref h15) (.ref h16))), (h1, .inl (k0, 256, .inl v_sort))] U.heap ∧ va_K (dC, dI) vwCl [(k0, .int)] U ∧ va_D (fun _ => True) [(h0, .inr (13, oX10 v_there v_count v_captures v_ranges (.ref h1) (.ref h2) (.ref h3) (.ref h4) (.ref h5) (.ref h6) (.ref h7) (.ref h8) (.ref h9) (.ref h10) (.ref h11) (.ref h12) (.ref h13) (.ref h14) (.ref h15) (.ref h16))), (h1, .inl (k0, 256, .inl v_sort))])) (va_Qi (fun (r u : Int32) => r = u) (fun (u : Int32) (t : State) => (Q u) ∧ va_P (dC, dI) vwCl [(h0, .inr (13, oX10 v_there v_count v_captures v_ranges (.ref h1) (.ref h2) (.ref h3) (.ref h4) (.ref h5) (.ref h6) (.ref h7) (.ref h8) (.ref h9) (.ref h10) (.ref h11) (.ref h12) (.ref h13) (.ref h14) (.ref h15) (.ref h16))), (h1, .inl (k0, 256, .inl v_sort))] t.heap ∧ va_D (va_A [(h0, .inr (13, oX10 v_there v_count v_captures v_ranges (.ref h1) (.ref h2) (.ref h3) (.ref h4) (.ref h5) (.ref h6) (.ref h7) (.ref h8) (.ref h9) (.ref h10) (.ref h11) (.ref h12) (.ref h13) (.ref h14) (.ref h15) (.ref h16))), (h1, .inl (k0, 256, .inl v_sort))] sz) [(h0, .inr (13, oX10 v_there v_count v_captures v_ranges (.ref h1) (.ref h2) (.ref h3) (.ref h4) (.ref h5) (.ref h6) (.ref h7) (.ref h8) (.ref h9) (.ref h10) (.ref h11) (.ref h12) (.ref h13) (.ref h14) (.ref h15) (.ref h16))), (h1, .inl (k0, 256, .inl v_sort))]) (va_A [(h0, .inr (13, oX10 v_there v_count v_captures v_ranges (.ref h1) (.ref h2) (.ref h3) (.ref h4) (.ref h5) (.ref h6) (.ref h7) (.ref h8) (.ref h9) (.ref h10) (.ref h11) (.ref h12) (.ref h13) (.ref h14) (.ref h15) (.ref h16))), (h1, .inl (k0, 256, .inl v_sort))] sz)) 0 0 (va_A [(h0, .inr (13, oX10 v_there v_count v_captures v_ranges (.ref h1) (.ref h2) (.ref h3) (.ref h4) (.ref h5) (.ref h6) (.ref h7) (.ref h8) (.ref h9) (.ref h10) (.ref h11) (.ref h12) (.ref h13) (.ref h14) (.ref h15) (.ref h16))), (h1, .inl (k0, 256, .inl v_sort))] sz) := by
  refine Met.ofW (cc := cX10_takesOneSign) (maxL := 2) (ret := (some (.boolean))) (by decide) rfl ?_
  intro p e s m args below meth c s₁ B hml hv
  obtain ⟨rfl, hsz, hP, hK, hD0⟩ := hv
  have hx := B.exec
  have hb := B.bytes
  have hr := B.returns
  have hts := atoms_spec (ws := WS yX10_takesOneSign cX10_takesOneSign 2 (some (.boolean))) B.pre
  have ht : ∀ w ∈ TW, w.before _ s = true := fun w h => hts w (List.mem_cons_of_mem _ h)
  have hown : s.vm.findClass "PatternWorkshop$Tree" = some m.cls := findClass_of_methodNamed B.named
  have hlocks := B.notSynchronized
  subst hsz
  have hD := hD0.self (sz := s.heap.size)
  generalize hAe : va_A [(h0, .inr (13, oX10 v_there v_count v_captures v_ranges (.ref h1) (.ref h2) (.ref h3) (.ref h4) (.ref h5) (.ref h6) (.ref h7) (.ref h8) (.ref h9) (.ref h10) (.ref h11) (.ref h12) (.ref h13) (.ref h14) (.ref h15) (.ref h16))), (h1, .inl (k0, 256, .inl v_sort))] s.heap.size = A at hD ⊢
  have hA : ∀ q : Nat, s.heap.size ≤ q → A q := fun q h => by rw [← hAe]; exact Or.inr h
  have hS : va_S A s.heap s.heap [] := va_S.rf
  have hP : va_P (dC, dI) vwCl [(h0, .inr (13, oX10 v_there v_count v_captures v_ranges (.ref h1) (.ref h2) (.ref h3) (.ref h4) (.ref h5) (.ref h6) (.ref h7) (.ref h8) (.ref h9) (.ref h10) (.ref h11) (.ref h12) (.ref h13) (.ref h14) (.ref h15) (.ref h16))), (h1, .inl (k0, 256, .inl v_sort))] s.heap := hP
  have hl := lv_entry ([.ref h0, .int p1]) (n := 2) (Nat.le_of_ble_eq_true rfl)
  rw [lg_entry_eq]
  generalize (lg_sl ([.ref h0, .int p1]) ++ List.replicate (2 - (lg_sl ([.ref h0, .int p1])).length) Slot.unset).toArray = ls at hl ⊢
  have hl : lv_has ls 2 [(0, .ref h0), (1, .int p1)] := hl
  clear hD0
  obtain ⟨QQ, hQQ⟩ : ∃ QQ, QQ = MQ below (va_Qi (fun (r u : Int32) => r = u) (fun (u : Int32) (t : State) => (Q u) ∧ va_P (dC, dI) vwCl [(h0, .inr (13, oX10 v_there v_count v_captures v_ranges (.ref h1) (.ref h2) (.ref h3) (.ref h4) (.ref h5) (.ref h6) (.ref h7) (.ref h8) (.ref h9) (.ref h10) (.ref h11) (.ref h12) (.ref h13) (.ref h14) (.ref h15) (.ref h16))), (h1, .inl (k0, 256, .inl v_sort))] t.heap ∧ va_D A [(h0, .inr (13, oX10 v_there v_count v_captures v_ranges (.ref h1) (.ref h2) (.ref h3) (.ref h4) (.ref h5) (.ref h6) (.ref h7) (.ref h8) (.ref h9) (.ref h10) (.ref h11) (.ref h12) (.ref h13) (.ref h14) (.ref h15) (.ref h16))), (h1, .inl (k0, 256, .inl v_sort))]) A) ([.ref h0, .int p1]).toArray s 0 0 A := ⟨_, rfl⟩
  show W p l e ({ frames := 1, cells := 0, slots := 0, locals := 21 } : Room) s m ([.ref h0, .int p1]).toArray below meth c s.heap [] 0 0 (MQ below (va_Qi (fun (r u : Int32) => r = u) (fun (u : Int32) (t : State) => (Q u) ∧ va_P (dC, dI) vwCl [(h0, .inr (13, oX10 v_there v_count v_captures v_ranges (.ref h1) (.ref h2) (.ref h3) (.ref h4) (.ref h5) (.ref h6) (.ref h7) (.ref h8) (.ref h9) (.ref h10) (.ref h11) (.ref h12) (.ref h13) (.ref h14) (.ref h15) (.ref h16))), (h1, .inl (k0, 256, .inl v_sort))] t.heap ∧ va_D A [(h0, .inr (13, oX10 v_there v_count v_captures v_ranges (.ref h1) (.ref h2) (.ref h3) (.ref h4) (.ref h5) (.ref h6) (.ref h7) (.ref h8) (.ref h9) (.ref h10) (.ref h11) (.ref h12) (.ref h13) (.ref h14) (.ref h15) (.ref h16))), (h1, .inl (k0, 256, .inl v_sort))]) A) ([.ref h0, .int p1]).toArray s 0 0 A) (F0 m 0 ls [])
  rw [← hQQ]
  unfold w_X10_takesOneSign at w
  refine lv_aload_n hx hb dX10_takesOneSign_0 rfl (lv_at hl 0 rfl) ?_
  refine lv_iload_n hx hb dX10_takesOneSign_1 rfl (lv_at hl 1 rfl) ?_
  have hPc_1 := hP.sub (ws' := [(h0, .inr (13, oX10 v_there v_count v_captures v_ranges (.ref h1) (.ref h2) (.ref h3) (.ref h4) (.ref h5) (.ref h6) (.ref h7) (.ref h8) (.ref h9) (.ref h10) (.ref h11) (.ref h12) (.ref h13) (.ref h14) (.ref h15) (.ref h16))), (h1, .inl (k0, 256, .inl v_sort))]) [0, 1] rfl
  have hDc_1 := hD.sub (ws' := [(h0, .inr (13, oX10 v_there v_count v_captures v_ranges (.ref h1) (.ref h2) (.ref h3) (.ref h4) (.ref h5) (.ref h6) (.ref h7) (.ref h8) (.ref h9) (.ref h10) (.ref h11) (.ref h12) (.ref h13) (.ref h14) (.ref h15) (.ref h16))), (h1, .inl (k0, 256, .inl v_sort))]) [0, 1] (by decide) rfl
  have hKc_1 := hK.sub (tys' := [(k0, .int)]) [0] rfl
  have hFc_1 := va_free (wc := [(h0, .inr (13, oX10 v_there v_count v_captures v_ranges (.ref h1) (.ref h2) (.ref h3) (.ref h4) (.ref h5) (.ref h6) (.ref h7) (.ref h8) (.ref h9) (.ref h10) (.ref h11) (.ref h12) (.ref h13) (.ref h14) (.ref h15) (.ref h16))), (h1, .inl (k0, 256, .inl v_sort))]) hD hS hA [0, 1] rfl
  refine va_calli (va_runV (As := [.int p1]) (rest := []) ⟨hx, hb, hml, hown, ht⟩ (mt_X10_sortOf l dC dI h0 h1 h2 h3 h4 h5 h6 h7 h8 h9 h10 h11 h12 h13 h14 h15 h16 k0 p1 v_there v_count v_captures v_ranges v_sort _ w s.heap.size) (cwV 1 ht (goodV tw_1101 tw_1102 tw_1103 tw_240 gw_X10_sortOf) rfl rfl rfl (by decide +kernel) ⟨Nat.le_of_ble_eq_true rfl, Nat.le_of_ble_eq_true rfl⟩) ⟨fun a U g mk q => by obtain ⟨q0, q1, qP, qK, qD⟩ := q; exact ⟨q0, q1, qP, va_K.moved (u := U) (U := U.calling g mk a) (Vm.Alike.refl U.vm) qK, qD⟩, va_recv hKc_1 hPc_1 (ci := 13) (q0 := 0) rfl rfl, fun U hU hW => ⟨rfl, by rw [hU], by rw [hU]; exact hPc_1, va_K.moved hW.alike hKc_1, hDc_1.weaken (fun _ _ _ _ => trivial)⟩⟩ rfl rfl hl.1 rfl (lv_room (Nat.le_of_ble_eq_true rfl)) dX10_takesOneSign_2 ⟨Nat.le_of_ble_eq_true rfl, Nat.le_of_ble_eq_true rfl⟩) hS (fun q _ h => hFc_1 q h) hFc_1 (fun r_1 u_1 t_1 H_1 locs_1 ht_1 hvm_1 hw_1 hB_1 hz_1 hk_1 hS_1 => ?_)
  subst hw_1
  obtain ⟨w_1, hP1_1, hD1_1⟩ := hB_1
  rw [ht_1] at hP1_1
  obtain ⟨hP_1, hD_1⟩ := va_join (wr := []) (w1 := [(h0, .inr (13, oX10 v_there v_count v_captures v_ranges (.ref h1) (.ref h2) (.ref h3) (.ref h4) (.ref h5) (.ref h6) (.ref h7) (.ref h8) (.ref h9) (.ref h10) (.ref h11) (.ref h12) (.ref h13) (.ref h14) (.ref h15) (.ref h16))), (h1, .inl (k0, 256, .inl v_sort))]) hP hD [0, 1] [] rfl rfl (by decide) (by decide) hk_1 hFc_1 hP1_1 hD1_1
  have hP_1 := hP_1.sub (ws' := [(h0, .inr (13, oX10 v_there v_count v_captures v_ranges (.ref h1) (.ref h2) (.ref h3) (.ref h4) (.ref h5) (.ref h6) (.ref h7) (.ref h8) (.ref h9) (.ref h10) (.ref h11) (.ref h12) (.ref h13) (.ref h14) (.ref h15) (.ref h16))), (h1, .inl (k0, 256, .inl v_sort))]) [0, 1] rfl
  have hD_1 := hD_1.sub (ws' := [(h0, .inr (13, oX10 v_there v_count v_captures v_ranges (.ref h1) (.ref h2) (.ref h3) (.ref h4) (.ref h5) (.ref h6) (.ref h7) (.ref h8) (.ref h9) (.ref h10) (.ref h11) (.ref h12) (.ref h13) (.ref h14) (.ref h15) (.ref h16))), (h1, .inl (k0, 256, .inl v_sort))]) [0, 1] (by decide) rfl
  clear hPc_1 hDc_1 hKc_1 hFc_1 hP1_1 hD1_1 hk_1 hz_1
  refine lv_iconst (v := 2) hx hb dX10_takesOneSign_5 (by decide) ?_
  have k_14 : ∀ (s0_14 : Int32), ∀ (H_b14 : Heap) (locs_b14 : List Loc) (ls_b14 : Array Slot), w_X10_takesOneSign_14 Q s0_14 → va_P (dC, dI) vwCl [(h0, .inr (13, oX10 v_there v_count v_captures v_ranges (.ref h1) (.ref h2) (.ref h3) (.ref h4) (.ref h5) (.ref h6) (.ref h7) (.ref h8) (.ref h9) (.ref h10) (.ref h11) (.ref h12) (.ref h13) (.ref h14) (.ref h15) (.ref h16))), (h1, .inl (k0, 256, .inl v_sort))] H_b14 → va_D A [(h0, .inr (13, oX10 v_there v_count v_captures v_ranges (.ref h1) (.ref h2) (.ref h3) (.ref h4) (.ref h5) (.ref h6) (.ref h7) (.ref h8) (.ref h9) (.ref h10) (.ref h11) (.ref h12) (.ref h13) (.ref h14) (.ref h15) (.ref h16))), (h1, .inl (k0, 256, .inl v_sort))] → va_S A s.heap H_b14 locs_b14 → lv_has ls_b14 2 [] → W p l e ({ frames := 1, cells := 0, slots := 0, locals := 21 } : Room) s m ([.ref h0, .int p1]).toArray below meth c H_b14 locs_b14 0 0 QQ (F0 m 14 ls_b14 [.int s0_14]) := by
    intro s0_14 H_b14 locs_b14 ls_b14 w_b14 hP_b14 hD_b14 hS_b14 hl_b14
    unfold w_X10_takesOneSign_14 at w_b14
    rw [hQQ]
    exact W.zret (v := s0_14) hx hb hr (or_nar w_b14.1) (fun t9 ht9 hW9 => ⟨⟨s0_14, s0_14, rfl, rfl, ⟨w_b14.2, by rw [ht9]; exact hP_b14, hD_b14⟩⟩, hS_b14.F ht9⟩) hS_b14.2.2 dX10_takesOneSign_14
  refine lv_icmp_gt (tgt := 13) hx hb dX10_takesOneSign_6 (by decide) (fun c_2 => ?_) (fun c_2 => ?_)
  · refine lv_iconst (v := 0) hx hb dX10_takesOneSign_13 (by decide) ?_
    exact k_14 0 _ _ _ (w_1.1 c_2) hP_1 hD_1 hS_1 (lv_sub hl [] rfl)
  · refine lv_iconst (v := 1) hx hb dX10_takesOneSign_9 (by decide) ?_
    refine lv_goto (tgt := 14) hx hb dX10_takesOneSign_10 (by decide) ?_
    exact k_14 1 _ _ _ (w_1.2 c_2) hP_1 hD_1 hS_1 (lv_sub hl [] rfl)
def w_X10_has_17 (Q : Int32 → Prop) (s0_17 : Int32) : Prop :=
  (s0_17 = 0 ∨ s0_17 = 1) ∧ Q s0_17
def w_X10_has_16 (Q : Int32 → Prop) : Prop :=
  w_X10_has_17 Q 0
def w_X10_has (p1 : Int32) (v_count : Int32) (Q : Int32 → Prop) : Prop :=
  ((p1 < 0) → w_X10_has_16 Q) ∧ ((¬ p1 < 0) → ((v_count ≤ p1) → w_X10_has_16 Q) ∧ ((¬ v_count ≤ p1) → w_X10_has_17 Q 1))
set_option maxHeartbeats 4000000 in
set_option maxRecDepth 100000 in
theorem mt_X10_has (l : Launch) (dC : Nat → ClassId) (dI : Nat → Nat → Nat) (h0 h1 h2 h3 h4 h5 h6 h7 h8 h9 h10 h11 h12 h13 h14 h15 h16 : Nat) (p1 : Int32) (v_there : Bool) (v_count : Int32) (v_captures : Int32) (v_ranges : Int32) (Q : Int32 → Prop) (w : w_X10_has p1 v_count Q) (sz : Nat) : Met l yX10_has (WS yX10_has cX10_has 2 (some (.boolean))) ({ frames := 0, cells := 0, slots := 0, locals := 0 } : Room) (va_Pc [.ref h0, .int p1] (fun U => U.heap.size = sz ∧ va_P (dC, dI) vwCl [(h0, .inr (13, oX10 v_there v_count v_captures v_ranges (.ref h1) (.ref h2) (.ref h3) (.ref h4) (.ref h5) (.ref h6) (.ref h7) (.ref h8) (.ref h9) (.ref h10) (.ref h11) (.ref h12) (.ref h13) (.ref h14) (.ref h15) (.ref h16)))] U.heap ∧ va_K (dC, dI) vwCl [] U ∧ va_D (fun _ => True) [(h0, .inr (13, oX10 v_there v_count v_captures v_ranges (.ref h1) (.ref h2) (.ref h3) (.ref h4) (.ref h5) (.ref h6) (.ref h7) (.ref h8) (.ref h9) (.ref h10) (.ref h11) (.ref h12) (.ref h13) (.ref h14) (.ref h15) (.ref h16)))])) (va_Qi (fun (r u : Int32) => r = u) (fun (u : Int32) (t : State) => (Q u) ∧ va_P (dC, dI) vwCl [(h0, .inr (13, oX10 v_there v_count v_captures v_ranges (.ref h1) (.ref h2) (.ref h3) (.ref h4) (.ref h5) (.ref h6) (.ref h7) (.ref h8) (.ref h9) (.ref h10) (.ref h11) (.ref h12) (.ref h13) (.ref h14) (.ref h15) (.ref h16)))] t.heap ∧ va_D (va_A [(h0, .inr (13, oX10 v_there v_count v_captures v_ranges (.ref h1) (.ref h2) (.ref h3) (.ref h4) (.ref h5) (.ref h6) (.ref h7) (.ref h8) (.ref h9) (.ref h10) (.ref h11) (.ref h12) (.ref h13) (.ref h14) (.ref h15) (.ref h16)))] sz) [(h0, .inr (13, oX10 v_there v_count v_captures v_ranges (.ref h1) (.ref h2) (.ref h3) (.ref h4) (.ref h5) (.ref h6) (.ref h7) (.ref h8) (.ref h9) (.ref h10) (.ref h11) (.ref h12) (.ref h13) (.ref h14) (.ref h15) (.ref h16)))]) (va_A [(h0, .inr (13, oX10 v_there v_count v_captures v_ranges (.ref h1) (.ref h2) (.ref h3) (.ref h4) (.ref h5) (.ref h6) (.ref h7) (.ref h8) (.ref h9) (.ref h10) (.ref h11) (.ref h12) (.ref h13) (.ref h14) (.ref h15) (.ref h16)))] sz)) 0 0 (va_A [(h0, .inr (13, oX10 v_there v_count v_captures v_ranges (.ref h1) (.ref h2) (.ref h3) (.ref h4) (.ref h5) (.ref h6) (.ref h7) (.ref h8) (.ref h9) (.ref h10) (.ref h11) (.ref h12) (.ref h13) (.ref h14) (.ref h15) (.ref h16)))] sz) := by
  refine Met.ofW (cc := cX10_has) (maxL := 2) (ret := (some (.boolean))) (by decide) rfl ?_
  intro p e s m args below meth c s₁ B hml hv
  obtain ⟨rfl, hsz, hP, hK, hD0⟩ := hv
  have hx := B.exec
  have hb := B.bytes
  have hr := B.returns
  have hts := atoms_spec (ws := WS yX10_has cX10_has 2 (some (.boolean))) B.pre
  have ht : ∀ w ∈ TW, w.before _ s = true := fun w h => hts w (List.mem_cons_of_mem _ h)
  have hown : s.vm.findClass "PatternWorkshop$Tree" = some m.cls := findClass_of_methodNamed B.named
  have hlocks := B.notSynchronized
  subst hsz
  have hD := hD0.self (sz := s.heap.size)
  generalize hAe : va_A [(h0, .inr (13, oX10 v_there v_count v_captures v_ranges (.ref h1) (.ref h2) (.ref h3) (.ref h4) (.ref h5) (.ref h6) (.ref h7) (.ref h8) (.ref h9) (.ref h10) (.ref h11) (.ref h12) (.ref h13) (.ref h14) (.ref h15) (.ref h16)))] s.heap.size = A at hD ⊢
  have hA : ∀ q : Nat, s.heap.size ≤ q → A q := fun q h => by rw [← hAe]; exact Or.inr h
  have hS : va_S A s.heap s.heap [] := va_S.rf
  have hP : va_P (dC, dI) vwCl [(h0, .inr (13, oX10 v_there v_count v_captures v_ranges (.ref h1) (.ref h2) (.ref h3) (.ref h4) (.ref h5) (.ref h6) (.ref h7) (.ref h8) (.ref h9) (.ref h10) (.ref h11) (.ref h12) (.ref h13) (.ref h14) (.ref h15) (.ref h16)))] s.heap := hP
  have hl := lv_entry ([.ref h0, .int p1]) (n := 2) (Nat.le_of_ble_eq_true rfl)
  rw [lg_entry_eq]
  generalize (lg_sl ([.ref h0, .int p1]) ++ List.replicate (2 - (lg_sl ([.ref h0, .int p1])).length) Slot.unset).toArray = ls at hl ⊢
  have hl : lv_has ls 2 [(0, .ref h0), (1, .int p1)] := hl
  clear hD0
  obtain ⟨QQ, hQQ⟩ : ∃ QQ, QQ = MQ below (va_Qi (fun (r u : Int32) => r = u) (fun (u : Int32) (t : State) => (Q u) ∧ va_P (dC, dI) vwCl [(h0, .inr (13, oX10 v_there v_count v_captures v_ranges (.ref h1) (.ref h2) (.ref h3) (.ref h4) (.ref h5) (.ref h6) (.ref h7) (.ref h8) (.ref h9) (.ref h10) (.ref h11) (.ref h12) (.ref h13) (.ref h14) (.ref h15) (.ref h16)))] t.heap ∧ va_D A [(h0, .inr (13, oX10 v_there v_count v_captures v_ranges (.ref h1) (.ref h2) (.ref h3) (.ref h4) (.ref h5) (.ref h6) (.ref h7) (.ref h8) (.ref h9) (.ref h10) (.ref h11) (.ref h12) (.ref h13) (.ref h14) (.ref h15) (.ref h16)))]) A) ([.ref h0, .int p1]).toArray s 0 0 A := ⟨_, rfl⟩
  show W p l e ({ frames := 0, cells := 0, slots := 0, locals := 0 } : Room) s m ([.ref h0, .int p1]).toArray below meth c s.heap [] 0 0 (MQ below (va_Qi (fun (r u : Int32) => r = u) (fun (u : Int32) (t : State) => (Q u) ∧ va_P (dC, dI) vwCl [(h0, .inr (13, oX10 v_there v_count v_captures v_ranges (.ref h1) (.ref h2) (.ref h3) (.ref h4) (.ref h5) (.ref h6) (.ref h7) (.ref h8) (.ref h9) (.ref h10) (.ref h11) (.ref h12) (.ref h13) (.ref h14) (.ref h15) (.ref h16)))] t.heap ∧ va_D A [(h0, .inr (13, oX10 v_there v_count v_captures v_ranges (.ref h1) (.ref h2) (.ref h3) (.ref h4) (.ref h5) (.ref h6) (.ref h7) (.ref h8) (.ref h9) (.ref h10) (.ref h11) (.ref h12) (.ref h13) (.ref h14) (.ref h15) (.ref h16)))]) A) ([.ref h0, .int p1]).toArray s 0 0 A) (F0 m 0 ls [])
  rw [← hQQ]
  unfold w_X10_has at w
  refine lv_iload_n hx hb dX10_has_0 rfl (lv_at hl 1 rfl) ?_
  have k_17 : ∀ (s0_17 : Int32), ∀ (H_b17 : Heap) (locs_b17 : List Loc) (ls_b17 : Array Slot), w_X10_has_17 Q s0_17 → va_P (dC, dI) vwCl [(h0, .inr (13, oX10 v_there v_count v_captures v_ranges (.ref h1) (.ref h2) (.ref h3) (.ref h4) (.ref h5) (.ref h6) (.ref h7) (.ref h8) (.ref h9) (.ref h10) (.ref h11) (.ref h12) (.ref h13) (.ref h14) (.ref h15) (.ref h16)))] H_b17 → va_D A [(h0, .inr (13, oX10 v_there v_count v_captures v_ranges (.ref h1) (.ref h2) (.ref h3) (.ref h4) (.ref h5) (.ref h6) (.ref h7) (.ref h8) (.ref h9) (.ref h10) (.ref h11) (.ref h12) (.ref h13) (.ref h14) (.ref h15) (.ref h16)))] → va_S A s.heap H_b17 locs_b17 → lv_has ls_b17 2 [] → W p l e ({ frames := 0, cells := 0, slots := 0, locals := 0 } : Room) s m ([.ref h0, .int p1]).toArray below meth c H_b17 locs_b17 0 0 QQ (F0 m 17 ls_b17 [.int s0_17]) := by
    intro s0_17 H_b17 locs_b17 ls_b17 w_b17 hP_b17 hD_b17 hS_b17 hl_b17
    unfold w_X10_has_17 at w_b17
    rw [hQQ]
    exact W.zret (v := s0_17) hx hb hr (or_nar w_b17.1) (fun t9 ht9 hW9 => ⟨⟨s0_17, s0_17, rfl, rfl, ⟨w_b17.2, by rw [ht9]; exact hP_b17, hD_b17⟩⟩, hS_b17.F ht9⟩) hS_b17.2.2 dX10_has_17
  have k_16 : ∀ (H_b16 : Heap) (locs_b16 : List Loc) (ls_b16 : Array Slot), w_X10_has_16 Q → va_P (dC, dI) vwCl [(h0, .inr (13, oX10 v_there v_count v_captures v_ranges (.ref h1) (.ref h2) (.ref h3) (.ref h4) (.ref h5) (.ref h6) (.ref h7) (.ref h8) (.ref h9) (.ref h10) (.ref h11) (.ref h12) (.ref h13) (.ref h14) (.ref h15) (.ref h16)))] H_b16 → va_D A [(h0, .inr (13, oX10 v_there v_count v_captures v_ranges (.ref h1) (.ref h2) (.ref h3) (.ref h4) (.ref h5) (.ref h6) (.ref h7) (.ref h8) (.ref h9) (.ref h10) (.ref h11) (.ref h12) (.ref h13) (.ref h14) (.ref h15) (.ref h16)))] → va_S A s.heap H_b16 locs_b16 → lv_has ls_b16 2 [] → W p l e ({ frames := 0, cells := 0, slots := 0, locals := 0 } : Room) s m ([.ref h0, .int p1]).toArray below meth c H_b16 locs_b16 0 0 QQ (F0 m 16 ls_b16 []) := by
    intro  H_b16 locs_b16 ls_b16 w_b16 hP_b16 hD_b16 hS_b16 hl_b16
    unfold w_X10_has_16 at w_b16
    refine lv_iconst (v := 0) hx hb dX10_has_16 (by decide) ?_
    exact k_17 0 _ _ _ w_b16 hP_b16 hD_b16 hS_b16 (lv_sub hl_b16 [] rfl)
  refine lv_if_lt (tgt := 16) hx hb dX10_has_1 (by decide) (fun c_1 => ?_) (fun c_1 => ?_)
  · exact k_16  _ _ _ (w.1 c_1) hP hD hS (lv_sub hl [] rfl)
  · refine lv_iload_n hx hb dX10_has_4 rfl (lv_at hl 1 rfl) ?_
    refine lv_aload_n hx hb dX10_has_5 rfl (lv_at hl 0 rfl) ?_
    refine va_get (D := (dC, dI)) (ci := 13) (v := .int v_count) (C := RX10) (T := TX10) (N := 20) hx hb ht inX10 hown hK hP 0 rfl rfl 1 (by decide) (ht _ tw_319) (fun _ h9 => h9) rfl dX10_has_6 ?_
    refine lv_icmp_ge (tgt := 16) hx hb dX10_has_9 (by decide) (fun c_2 => ?_) (fun c_2 => ?_)
    · exact k_16  _ _ _ ((w.2 c_1).1 c_2) hP hD hS (lv_sub hl [] rfl)
    · refine lv_iconst (v := 1) hx hb dX10_has_12 (by decide) ?_
      refine lv_goto (tgt := 17) hx hb dX10_has_13 (by decide) ?_
      exact k_17 1 _ _ _ ((w.2 c_1).2 c_2) hP hD hS (lv_sub hl [] rfl)
def w_X10_close_18 (Q : (Nat → Int32) → Prop) (v_end_18 : Nat → Int32) : Prop :=
  Q  v_end_18
def w_X10_close (p1 : Int32) (v_count : Int32) (v_end : Nat → Int32) (Q : (Nat → Int32) → Prop) : Prop :=
  w_X10_has p1 v_count (fun r_1 => ((r_1 = 0) → w_X10_close_18 Q v_end) ∧ ((¬ r_1 = 0) → vp_in p1 256 ∧ ∀ g_3 : Nat → Int32, g_3 = upd v_end p1.toNatClampNeg v_count → w_X10_close_18 Q g_3))
set_option maxHeartbeats 4000000 in
set_option maxRecDepth 100000 in
theorem mt_X10_close (l : Launch) (dC : Nat → ClassId) (dI : Nat → Nat → Nat) (h0 h1 h2 h3 h4 h5 h6 h7 h8 h9 h10 h11 h12 h13 h14 h15 h16 : Nat) (k0 : ClassId) (p1 : Int32) (v_there : Bool) (v_count : Int32) (v_captures : Int32) (v_ranges : Int32) (v_end : Nat → Int32) (Q : (Nat → Int32) → Prop) (w : w_X10_close p1 v_count v_end Q) (sz : Nat) : Met l yX10_close (WS yX10_close cX10_close 2 none) ({ frames := 1, cells := 0, slots := 0, locals := 21 } : Room) (va_Pc [.ref h0, .int p1] (fun U => U.heap.size = sz ∧ va_P (dC, dI) vwCl [(h0, .inr (13, oX10 v_there v_count v_captures v_ranges (.ref h2) (.ref h3) (.ref h1) (.ref h4) (.ref h5) (.ref h6) (.ref h7) (.ref h8) (.ref h9) (.ref h10) (.ref h11) (.ref h12) (.ref h13) (.ref h14) (.ref h15) (.ref h16))), (h1, .inl (k0, 256, .inl v_end))] U.heap ∧ va_K (dC, dI) vwCl [(k0, .int)] U ∧ va_D (fun _ => True) [(h0, .inr (13, oX10 v_there v_count v_captures v_ranges (.ref h2) (.ref h3) (.ref h1) (.ref h4) (.ref h5) (.ref h6) (.ref h7) (.ref h8) (.ref h9) (.ref h10) (.ref h11) (.ref h12) (.ref h13) (.ref h14) (.ref h15) (.ref h16))), (h1, .inl (k0, 256, .inl v_end))])) (va_Qv (fun (u : Nat) => u = 0) (fun (_ : Nat) (t : State) => ∃ (ov_end : Nat → Int32), (Q ov_end) ∧ va_P (dC, dI) vwCl [(h0, .inr (13, oX10 v_there v_count v_captures v_ranges (.ref h2) (.ref h3) (.ref h1) (.ref h4) (.ref h5) (.ref h6) (.ref h7) (.ref h8) (.ref h9) (.ref h10) (.ref h11) (.ref h12) (.ref h13) (.ref h14) (.ref h15) (.ref h16))), (h1, .inl (k0, 256, .inl ov_end))] t.heap ∧ va_D (va_A [(h0, .inr (13, oX10 v_there v_count v_captures v_ranges (.ref h2) (.ref h3) (.ref h1) (.ref h4) (.ref h5) (.ref h6) (.ref h7) (.ref h8) (.ref h9) (.ref h10) (.ref h11) (.ref h12) (.ref h13) (.ref h14) (.ref h15) (.ref h16))), (h1, .inl (k0, 256, .inl v_end))] sz) [(h0, .inr (13, oX10 v_there v_count v_captures v_ranges (.ref h2) (.ref h3) (.ref h1) (.ref h4) (.ref h5) (.ref h6) (.ref h7) (.ref h8) (.ref h9) (.ref h10) (.ref h11) (.ref h12) (.ref h13) (.ref h14) (.ref h15) (.ref h16))), (h1, .inl (k0, 256, .inl ov_end))]) (va_A [(h0, .inr (13, oX10 v_there v_count v_captures v_ranges (.ref h2) (.ref h3) (.ref h1) (.ref h4) (.ref h5) (.ref h6) (.ref h7) (.ref h8) (.ref h9) (.ref h10) (.ref h11) (.ref h12) (.ref h13) (.ref h14) (.ref h15) (.ref h16))), (h1, .inl (k0, 256, .inl v_end))] sz)) 0 0 (va_A [(h0, .inr (13, oX10 v_there v_count v_captures v_ranges (.ref h2) (.ref h3) (.ref h1) (.ref h4) (.ref h5) (.ref h6) (.ref h7) (.ref h8) (.ref h9) (.ref h10) (.ref h11) (.ref h12) (.ref h13) (.ref h14) (.ref h15) (.ref h16))), (h1, .inl (k0, 256, .inl v_end))] sz) := by
  refine Met.ofW (cc := cX10_close) (maxL := 2) (ret := none) (by decide) rfl ?_
  intro p e s m args below meth c s₁ B hml hv
  obtain ⟨rfl, hsz, hP, hK, hD0⟩ := hv
  have hx := B.exec
  have hb := B.bytes
  have hr := B.returns
  have hts := atoms_spec (ws := WS yX10_close cX10_close 2 none) B.pre
  have ht : ∀ w ∈ TW, w.before _ s = true := fun w h => hts w (List.mem_cons_of_mem _ h)
  have hown : s.vm.findClass "PatternWorkshop$Tree" = some m.cls := findClass_of_methodNamed B.named
  have hlocks := B.notSynchronized
  subst hsz
  have hD := hD0.self (sz := s.heap.size)
  generalize hAe : va_A [(h0, .inr (13, oX10 v_there v_count v_captures v_ranges (.ref h2) (.ref h3) (.ref h1) (.ref h4) (.ref h5) (.ref h6) (.ref h7) (.ref h8) (.ref h9) (.ref h10) (.ref h11) (.ref h12) (.ref h13) (.ref h14) (.ref h15) (.ref h16))), (h1, .inl (k0, 256, .inl v_end))] s.heap.size = A at hD ⊢
  have hA : ∀ q : Nat, s.heap.size ≤ q → A q := fun q h => by rw [← hAe]; exact Or.inr h
  have hS : va_S A s.heap s.heap [] := va_S.rf
  have hP : va_P (dC, dI) vwCl [(h0, .inr (13, oX10 v_there v_count v_captures v_ranges (.ref h2) (.ref h3) (.ref h1) (.ref h4) (.ref h5) (.ref h6) (.ref h7) (.ref h8) (.ref h9) (.ref h10) (.ref h11) (.ref h12) (.ref h13) (.ref h14) (.ref h15) (.ref h16))), (h1, .inl (k0, 256, .inl v_end))] s.heap := hP
  have hl := lv_entry ([.ref h0, .int p1]) (n := 2) (Nat.le_of_ble_eq_true rfl)
  rw [lg_entry_eq]
  generalize (lg_sl ([.ref h0, .int p1]) ++ List.replicate (2 - (lg_sl ([.ref h0, .int p1])).length) Slot.unset).toArray = ls at hl ⊢
  have hl : lv_has ls 2 [(0, .ref h0), (1, .int p1)] := hl
  clear hD0
  obtain ⟨QQ, hQQ⟩ : ∃ QQ, QQ = MQ below (va_Qv (fun (u : Nat) => u = 0) (fun (_ : Nat) (t : State) => ∃ (ov_end : Nat → Int32), (Q ov_end) ∧ va_P (dC, dI) vwCl [(h0, .inr (13, oX10 v_there v_count v_captures v_ranges (.ref h2) (.ref h3) (.ref h1) (.ref h4) (.ref h5) (.ref h6) (.ref h7) (.ref h8) (.ref h9) (.ref h10) (.ref h11) (.ref h12) (.ref h13) (.ref h14) (.ref h15) (.ref h16))), (h1, .inl (k0, 256, .inl ov_end))] t.heap ∧ va_D A [(h0, .inr (13, oX10 v_there v_count v_captures v_ranges (.ref h2) (.ref h3) (.ref h1) (.ref h4) (.ref h5) (.ref h6) (.ref h7) (.ref h8) (.ref h9) (.ref h10) (.ref h11) (.ref h12) (.ref h13) (.ref h14) (.ref h15) (.ref h16))), (h1, .inl (k0, 256, .inl ov_end))]) A) ([.ref h0, .int p1]).toArray s 0 0 A := ⟨_, rfl⟩
  show W p l e ({ frames := 1, cells := 0, slots := 0, locals := 21 } : Room) s m ([.ref h0, .int p1]).toArray below meth c s.heap [] 0 0 (MQ below (va_Qv (fun (u : Nat) => u = 0) (fun (_ : Nat) (t : State) => ∃ (ov_end : Nat → Int32), (Q ov_end) ∧ va_P (dC, dI) vwCl [(h0, .inr (13, oX10 v_there v_count v_captures v_ranges (.ref h2) (.ref h3) (.ref h1) (.ref h4) (.ref h5) (.ref h6) (.ref h7) (.ref h8) (.ref h9) (.ref h10) (.ref h11) (.ref h12) (.ref h13) (.ref h14) (.ref h15) (.ref h16))), (h1, .inl (k0, 256, .inl ov_end))] t.heap ∧ va_D A [(h0, .inr (13, oX10 v_there v_count v_captures v_ranges (.ref h2) (.ref h3) (.ref h1) (.ref h4) (.ref h5) (.ref h6) (.ref h7) (.ref h8) (.ref h9) (.ref h10) (.ref h11) (.ref h12) (.ref h13) (.ref h14) (.ref h15) (.ref h16))), (h1, .inl (k0, 256, .inl ov_end))]) A) ([.ref h0, .int p1]).toArray s 0 0 A) (F0 m 0 ls [])
  rw [← hQQ]
  unfold w_X10_close at w
  refine lv_aload_n hx hb dX10_close_0 rfl (lv_at hl 0 rfl) ?_
  refine lv_iload_n hx hb dX10_close_1 rfl (lv_at hl 1 rfl) ?_
  have hPc_1 := hP.sub (ws' := [(h0, .inr (13, oX10 v_there v_count v_captures v_ranges (.ref h2) (.ref h3) (.ref h1) (.ref h4) (.ref h5) (.ref h6) (.ref h7) (.ref h8) (.ref h9) (.ref h10) (.ref h11) (.ref h12) (.ref h13) (.ref h14) (.ref h15) (.ref h16)))]) [0] rfl
  have hDc_1 := hD.sub (ws' := [(h0, .inr (13, oX10 v_there v_count v_captures v_ranges (.ref h2) (.ref h3) (.ref h1) (.ref h4) (.ref h5) (.ref h6) (.ref h7) (.ref h8) (.ref h9) (.ref h10) (.ref h11) (.ref h12) (.ref h13) (.ref h14) (.ref h15) (.ref h16)))]) [0] (by decide) rfl
  have hKc_1 := hK.sub (tys' := []) [] rfl
  have hFc_1 := va_free (wc := [(h0, .inr (13, oX10 v_there v_count v_captures v_ranges (.ref h2) (.ref h3) (.ref h1) (.ref h4) (.ref h5) (.ref h6) (.ref h7) (.ref h8) (.ref h9) (.ref h10) (.ref h11) (.ref h12) (.ref h13) (.ref h14) (.ref h15) (.ref h16)))]) hD hS hA [0] rfl
  refine va_calli (va_runV (As := [.int p1]) (rest := []) ⟨hx, hb, hml, hown, ht⟩ (mt_X10_has l dC dI h0 h2 h3 h1 h4 h5 h6 h7 h8 h9 h10 h11 h12 h13 h14 h15 h16 p1 v_there v_count v_captures v_ranges _ w s.heap.size) (cwV 1 ht (goodV tw_1069 tw_1070 tw_1071 tw_240 gw_X10_has) rfl rfl rfl (by decide +kernel) ⟨Nat.le_of_ble_eq_true rfl, Nat.le_of_ble_eq_true rfl⟩) ⟨fun a U g mk q => by obtain ⟨q0, q1, qP, qK, qD⟩ := q; exact ⟨q0, q1, qP, va_K.moved (u := U) (U := U.calling g mk a) (Vm.Alike.refl U.vm) qK, qD⟩, va_recv hKc_1 hPc_1 (ci := 13) (q0 := 0) rfl rfl, fun U hU hW => ⟨rfl, by rw [hU], by rw [hU]; exact hPc_1, va_K.moved hW.alike hKc_1, hDc_1.weaken (fun _ _ _ _ => trivial)⟩⟩ rfl rfl hl.1 rfl (lv_room (Nat.le_of_ble_eq_true rfl)) dX10_close_2 ⟨Nat.le_of_ble_eq_true rfl, Nat.le_of_ble_eq_true rfl⟩) hS (fun q _ h => hFc_1 q h) hFc_1 (fun r_1 u_1 t_1 H_1 locs_1 ht_1 hvm_1 hw_1 hB_1 hz_1 hk_1 hS_1 => ?_)
  subst hw_1
  obtain ⟨w_1, hP1_1, hD1_1⟩ := hB_1
  rw [ht_1] at hP1_1
  obtain ⟨hP_1, hD_1⟩ := va_join (wr := [(h1, .inl (k0, 256, .inl v_end))]) (w1 := [(h0, .inr (13, oX10 v_there v_count v_captures v_ranges (.ref h2) (.ref h3) (.ref h1) (.ref h4) (.ref h5) (.ref h6) (.ref h7) (.ref h8) (.ref h9) (.ref h10) (.ref h11) (.ref h12) (.ref h13) (.ref h14) (.ref h15) (.ref h16)))]) hP hD [0] [1] rfl rfl (by decide) (by decide) hk_1 hFc_1 hP1_1 hD1_1
  have hP_1 := hP_1.sub (ws' := [(h0, .inr (13, oX10 v_there v_count v_captures v_ranges (.ref h2) (.ref h3) (.ref h1) (.ref h4) (.ref h5) (.ref h6) (.ref h7) (.ref h8) (.ref h9) (.ref h10) (.ref h11) (.ref h12) (.ref h13) (.ref h14) (.ref h15) (.ref h16))), (h1, .inl (k0, 256, .inl v_end))]) [1, 0] rfl
  have hD_1 := hD_1.sub (ws' := [(h0, .inr (13, oX10 v_there v_count v_captures v_ranges (.ref h2) (.ref h3) (.ref h1) (.ref h4) (.ref h5) (.ref h6) (.ref h7) (.ref h8) (.ref h9) (.ref h10) (.ref h11) (.ref h12) (.ref h13) (.ref h14) (.ref h15) (.ref h16))), (h1, .inl (k0, 256, .inl v_end))]) [1, 0] (by decide) rfl
  clear hPc_1 hDc_1 hKc_1 hFc_1 hP1_1 hD1_1 hk_1 hz_1
  have k_18 : ∀ (v_end_18 : Nat → Int32), ∀ (H_b18 : Heap) (locs_b18 : List Loc) (ls_b18 : Array Slot), w_X10_close_18 Q v_end_18 → va_P (dC, dI) vwCl [(h0, .inr (13, oX10 v_there v_count v_captures v_ranges (.ref h2) (.ref h3) (.ref h1) (.ref h4) (.ref h5) (.ref h6) (.ref h7) (.ref h8) (.ref h9) (.ref h10) (.ref h11) (.ref h12) (.ref h13) (.ref h14) (.ref h15) (.ref h16))), (h1, .inl (k0, 256, .inl v_end_18))] H_b18 → va_D A [(h0, .inr (13, oX10 v_there v_count v_captures v_ranges (.ref h2) (.ref h3) (.ref h1) (.ref h4) (.ref h5) (.ref h6) (.ref h7) (.ref h8) (.ref h9) (.ref h10) (.ref h11) (.ref h12) (.ref h13) (.ref h14) (.ref h15) (.ref h16))), (h1, .inl (k0, 256, .inl v_end_18))] → va_S A s.heap H_b18 locs_b18 → lv_has ls_b18 2 [] → W p l e ({ frames := 1, cells := 0, slots := 0, locals := 21 } : Room) s m ([.ref h0, .int p1]).toArray below meth c H_b18 locs_b18 0 0 QQ (F0 m 18 ls_b18 []) := by
    intro v_end_18 H_b18 locs_b18 ls_b18 w_b18 hP_b18 hD_b18 hS_b18 hl_b18
    unfold w_X10_close_18 at w_b18
    rw [hQQ]
    exact W.vret hx hb hr (fun t9 ht9 hW9 => ⟨⟨0, rfl, rfl, ⟨v_end_18, w_b18, by rw [ht9]; exact hP_b18, hD_b18⟩⟩, hS_b18.F ht9⟩) hS_b18.2.2 dX10_close_18
  refine lv_if_eq (tgt := 18) hx hb dX10_close_5 (by decide) (fun c_2 => ?_) (fun c_2 => ?_)
  · exact k_18 v_end _ _ _ (w_1.1 c_2) hP_1 hD_1 hS_1 (lv_sub hl [] rfl)
  · refine lv_aload_n hx hb dX10_close_8 rfl (lv_at hl 0 rfl) ?_
    refine va_get (D := (dC, dI)) (ci := 13) (v := .ref h1) (C := RX10) (T := TX10) (N := 20) hx hb ht inX10 hown hK hP_1 0 rfl rfl 6 (by decide) (ht _ tw_329) (fun _ h9 => h9) rfl dX10_close_9 ?_
    refine lv_iload_n hx hb dX10_close_12 rfl (lv_at hl 1 rfl) ?_
    refine lv_aload_n hx hb dX10_close_13 rfl (lv_at hl 0 rfl) ?_
    refine va_get (D := (dC, dI)) (ci := 13) (v := .int v_count) (C := RX10) (T := TX10) (N := 20) hx hb ht inX10 hown hK hP_1 0 rfl rfl 1 (by decide) (ht _ tw_319) (fun _ h9 => h9) rfl dX10_close_14 ?_
    refine va_iast hx hb hK hP_1 hD_1 hS_1 1 0 rfl rfl (i := p1) (w_1.2 c_2).1 dX10_close_17 (fun H_3 locs_3 hP_3 hD_3 hS_3 => ?_)
    obtain ⟨g_3, hg_3⟩ : ∃ g : Nat → Int32, g = upd v_end p1.toNatClampNeg v_count := ⟨_, rfl⟩
    have hP_3 : va_P (dC, dI) vwCl [(h0, .inr (13, oX10 v_there v_count v_captures v_ranges (.ref h2) (.ref h3) (.ref h1) (.ref h4) (.ref h5) (.ref h6) (.ref h7) (.ref h8) (.ref h9) (.ref h10) (.ref h11) (.ref h12) (.ref h13) (.ref h14) (.ref h15) (.ref h16))), (h1, .inl (k0, 256, .inl g_3))] H_3 := by rw [hg_3]; exact hP_3
    have hD_3 : va_D A [(h0, .inr (13, oX10 v_there v_count v_captures v_ranges (.ref h2) (.ref h3) (.ref h1) (.ref h4) (.ref h5) (.ref h6) (.ref h7) (.ref h8) (.ref h9) (.ref h10) (.ref h11) (.ref h12) (.ref h13) (.ref h14) (.ref h15) (.ref h16))), (h1, .inl (k0, 256, .inl g_3))] := by rw [hg_3]; exact hD_3
    exact k_18 g_3 _ _ _ (((w_1.2 c_2).2) g_3 hg_3) hP_3 hD_3 hS_3 (lv_sub hl [] rfl)
