set_option maxHeartbeats 4000000 in
set_option maxRecDepth 100000 in
theorem mt_X10_reset (l : Launch) (dC : Nat → ClassId) (dI : Nat → Nat → Nat) (h0 h1 h2 h3 h4 h5 h6 h7 h8 h9 h10 h11 h12 h13 h14 h15 h16 : Nat) (sz : Nat) : Met l yX10_reset (WS yX10_reset cX10_reset 1 none) ({ frames := 0, cells := 0, slots := 0, locals := 0 }) (va_Pc [.ref h0] (fun U => U.heap.size = sz ∧ va_P (dC, dI) vwCl [(h0, .inr (13, [.int 0, .int 0, .int 0, .int 0, .ref h1, .ref h2, .ref h3, .ref h4, .ref h5, .ref h6, .ref h7, .ref h8, .ref h9, .ref h10, .ref h11, .ref h12, .ref h13, .ref h14, .ref h15, .ref h16]))] U.heap ∧ va_K (dC, dI) vwCl [] U ∧ va_D (fun _ => True) [(h0, .inr (13, [.int 0, .int 0, .int 0, .int 0, .ref h1, .ref h2, .ref h3, .ref h4, .ref h5, .ref h6, .ref h7, .ref h8, .ref h9, .ref h10, .ref h11, .ref h12, .ref h13, .ref h14, .ref h15, .ref h16]))])) (va_Qv (fun (u : Nat) => (u = 0)) (fun (_ : Nat) (t : State) => (va_P (dC, dI) vwCl [(h0, .inr (13, [.int 0, .int 0, .int 0, .int 0, .ref h1, .ref h2, .ref h3, .ref h4, .ref h5, .ref h6, .ref h7, .ref h8, .ref h9, .ref h10, .ref h11, .ref h12, .ref h13, .ref h14, .ref h15, .ref h16]))] t.heap ∧ va_K (dC, dI) vwCl [] t ∧ va_D (va_A [(h0, .inr (13, [.int 0, .int 0, .int 0, .int 0, .ref h1, .ref h2, .ref h3, .ref h4, .ref h5, .ref h6, .ref h7, .ref h8, .ref h9, .ref h10, .ref h11, .ref h12, .ref h13, .ref h14, .ref h15, .ref h16]))] sz) [(h0, .inr (13, [.int 0, .int 0, .int 0, .int 0, .ref h1, .ref h2, .ref h3, .ref h4, .ref h5, .ref h6, .ref h7, .ref h8, .ref h9, .ref h10, .ref h11, .ref h12, .ref h13, .ref h14, .ref h15, .ref h16]))])) (va_A [(h0, .inr (13, [.int 0, .int 0, .int 0, .int 0, .ref h1, .ref h2, .ref h3, .ref h4, .ref h5, .ref h6, .ref h7, .ref h8, .ref h9, .ref h10, .ref h11, .ref h12, .ref h13, .ref h14, .ref h15, .ref h16]))] sz)) 0 0 (va_A [(h0, .inr (13, [.int 0, .int 0, .int 0, .int 0, .ref h1, .ref h2, .ref h3, .ref h4, .ref h5, .ref h6, .ref h7, .ref h8, .ref h9, .ref h10, .ref h11, .ref h12, .ref h13, .ref h14, .ref h15, .ref h16]))] sz) := by
  refine Met.ofW (cc := cX10_reset) (maxL := 1) (ret := none) (by decide) rfl ?_
  intro p e s m args below meth c s₁ B hml hv
  obtain ⟨rfl, hsz, hP, hK, hD0⟩ := hv
  have hx := B.exec
  have hb := B.bytes
  have hr := B.returns
  have hts := atoms_spec (ws := WS yX10_reset cX10_reset 1 none) B.pre
  have ht : ∀ w ∈ TW, w.before _ s = true := fun w h => hts w (List.mem_cons_of_mem _ h)
  have hown : s.vm.findClass "PatternWorkshop$Tree" = some m.cls := findClass_of_methodNamed B.named
  have hlocks := B.notSynchronized
  subst hsz
  have hD := hD0.self (sz := s.heap.size)
  generalize hAe : va_A [(h0, .inr (13, [.int 0, .int 0, .int 0, .int 0, .ref h1, .ref h2, .ref h3, .ref h4, .ref h5, .ref h6, .ref h7, .ref h8, .ref h9, .ref h10, .ref h11, .ref h12, .ref h13, .ref h14, .ref h15, .ref h16]))] s.heap.size = A at hD ⊢
  have hA : ∀ q : Nat, s.heap.size ≤ q → A q := fun q h => by rw [← hAe]; exact Or.inr h
  have hS : va_S A s.heap s.heap [] := va_S.rf
  have hP : va_P (dC, dI) vwCl [(h0, .inr (13, [.int 0, .int 0, .int 0, .int 0, .ref h1, .ref h2, .ref h3, .ref h4, .ref h5, .ref h6, .ref h7, .ref h8, .ref h9, .ref h10, .ref h11, .ref h12, .ref h13, .ref h14, .ref h15, .ref h16]))] s.heap := hP
  have hl := lv_entry ([.ref h0]) (n := 1) (Nat.le_of_ble_eq_true rfl)
  rw [lg_entry_eq]
  generalize (lg_sl ([.ref h0]) ++ List.replicate (1 - (lg_sl ([.ref h0])).length) Slot.unset).toArray = ls at hl ⊢
  have hl : lv_has ls 1 [(0, .ref h0)] := hl
  clear hD0
  refine lv_aload_n hx hb dX10_reset_0 rfl (lv_at hl 0 rfl) ?_
  refine lv_iconst (v := 0) hx hb dX10_reset_1 (by decide) ?_
  refine va_put (D := (dC, dI)) (ci := 13) (v := .int 0) (ty := .boolean) (C := RX10) (T := TX10) (N := 20) hx hb ht inX10 tyX10 tyX10_ok nmX10 hown hK hP hD hS 0 rfl rfl 0 (by decide) (ht _ tw_317) (fun _ h9 => h9) rfl (by decide +kernel) rfl rfl (Nat.le_of_ble_eq_true rfl) dX10_reset_2 (fun H_1 locs_1 hP_1 hD_1 hS_1 => ?_)
  have hP_1 : va_P (dC, dI) vwCl [(h0, .inr (13, [.int 0, .int 0, .int 0, .int 0, .ref h1, .ref h2, .ref h3, .ref h4, .ref h5, .ref h6, .ref h7, .ref h8, .ref h9, .ref h10, .ref h11, .ref h12, .ref h13, .ref h14, .ref h15, .ref h16]))] H_1 := hP_1
  have hD_1 : va_D A [(h0, .inr (13, [.int 0, .int 0, .int 0, .int 0, .ref h1, .ref h2, .ref h3, .ref h4, .ref h5, .ref h6, .ref h7, .ref h8, .ref h9, .ref h10, .ref h11, .ref h12, .ref h13, .ref h14, .ref h15, .ref h16]))] := hD_1
  clear hP hD hS
  refine lv_aload_n hx hb dX10_reset_5 rfl (lv_at hl 0 rfl) ?_
  refine lv_iconst (v := 0) hx hb dX10_reset_6 (by decide) ?_
  refine va_put (D := (dC, dI)) (ci := 13) (v := .int 0) (ty := .int) (C := RX10) (T := TX10) (N := 20) hx hb ht inX10 tyX10 tyX10_ok nmX10 hown hK hP_1 hD_1 hS_1 0 rfl rfl 1 (by decide) (ht _ tw_319) (fun _ h9 => h9) rfl (by decide +kernel) rfl rfl (Nat.le_of_ble_eq_true rfl) dX10_reset_7 (fun H_2 locs_2 hP_2 hD_2 hS_2 => ?_)
  have hP_2 : va_P (dC, dI) vwCl [(h0, .inr (13, [.int 0, .int 0, .int 0, .int 0, .ref h1, .ref h2, .ref h3, .ref h4, .ref h5, .ref h6, .ref h7, .ref h8, .ref h9, .ref h10, .ref h11, .ref h12, .ref h13, .ref h14, .ref h15, .ref h16]))] H_2 := hP_2
  have hD_2 : va_D A [(h0, .inr (13, [.int 0, .int 0, .int 0, .int 0, .ref h1, .ref h2, .ref h3, .ref h4, .ref h5, .ref h6, .ref h7, .ref h8, .ref h9, .ref h10, .ref h11, .ref h12, .ref h13, .ref h14, .ref h15, .ref h16]))] := hD_2
  clear hP_1 hD_1 hS_1
  refine lv_aload_n hx hb dX10_reset_10 rfl (lv_at hl 0 rfl) ?_
  refine lv_iconst (v := 0) hx hb dX10_reset_11 (by decide) ?_
  refine va_put (D := (dC, dI)) (ci := 13) (v := .int 0) (ty := .int) (C := RX10) (T := TX10) (N := 20) hx hb ht inX10 tyX10 tyX10_ok nmX10 hown hK hP_2 hD_2 hS_2 0 rfl rfl 2 (by decide) (ht _ tw_321) (fun _ h9 => h9) rfl (by decide +kernel) rfl rfl (Nat.le_of_ble_eq_true rfl) dX10_reset_12 (fun H_3 locs_3 hP_3 hD_3 hS_3 => ?_)
  have hP_3 : va_P (dC, dI) vwCl [(h0, .inr (13, [.int 0, .int 0, .int 0, .int 0, .ref h1, .ref h2, .ref h3, .ref h4, .ref h5, .ref h6, .ref h7, .ref h8, .ref h9, .ref h10, .ref h11, .ref h12, .ref h13, .ref h14, .ref h15, .ref h16]))] H_3 := hP_3
  have hD_3 : va_D A [(h0, .inr (13, [.int 0, .int 0, .int 0, .int 0, .ref h1, .ref h2, .ref h3, .ref h4, .ref h5, .ref h6, .ref h7, .ref h8, .ref h9, .ref h10, .ref h11, .ref h12, .ref h13, .ref h14, .ref h15, .ref h16]))] := hD_3
  clear hP_2 hD_2 hS_2
  refine lv_aload_n hx hb dX10_reset_15 rfl (lv_at hl 0 rfl) ?_
  refine lv_iconst (v := 0) hx hb dX10_reset_16 (by decide) ?_
  refine va_put (D := (dC, dI)) (ci := 13) (v := .int 0) (ty := .int) (C := RX10) (T := TX10) (N := 20) hx hb ht inX10 tyX10 tyX10_ok nmX10 hown hK hP_3 hD_3 hS_3 0 rfl rfl 3 (by decide) (ht _ tw_326) (fun _ h9 => h9) rfl (by decide +kernel) rfl rfl (Nat.le_of_ble_eq_true rfl) dX10_reset_17 (fun H_4 locs_4 hP_4 hD_4 hS_4 => ?_)
  have hP_4 : va_P (dC, dI) vwCl [(h0, .inr (13, [.int 0, .int 0, .int 0, .int 0, .ref h1, .ref h2, .ref h3, .ref h4, .ref h5, .ref h6, .ref h7, .ref h8, .ref h9, .ref h10, .ref h11, .ref h12, .ref h13, .ref h14, .ref h15, .ref h16]))] H_4 := hP_4
  have hD_4 : va_D A [(h0, .inr (13, [.int 0, .int 0, .int 0, .int 0, .ref h1, .ref h2, .ref h3, .ref h4, .ref h5, .ref h6, .ref h7, .ref h8, .ref h9, .ref h10, .ref h11, .ref h12, .ref h13, .ref h14, .ref h15, .ref h16]))] := hD_4
  clear hP_3 hD_3 hS_3
  have hP9 := hP_4.sub (ws' := [(h0, .inr (13, [.int 0, .int 0, .int 0, .int 0, .ref h1, .ref h2, .ref h3, .ref h4, .ref h5, .ref h6, .ref h7, .ref h8, .ref h9, .ref h10, .ref h11, .ref h12, .ref h13, .ref h14, .ref h15, .ref h16]))]) [0] rfl
  have hD9 := hD_4.sub (ws' := [(h0, .inr (13, [.int 0, .int 0, .int 0, .int 0, .ref h1, .ref h2, .ref h3, .ref h4, .ref h5, .ref h6, .ref h7, .ref h8, .ref h9, .ref h10, .ref h11, .ref h12, .ref h13, .ref h14, .ref h15, .ref h16]))]) [0] (by decide) rfl
  have hK9 := hK.sub (tys' := []) [] rfl
  refine W.widen (k := 0) (n := 0) (by decide) (by decide) ?_
  exact W.vret hx hb hr (fun t9 ht9 hW9 => ⟨⟨0, rfl, rfl, ⟨by rw [ht9]; exact hP9, va_K.moved hW9.alike hK9, hD9⟩⟩, hS_4.F ht9⟩) hS_4.2.2 dX10_reset_20
set_option maxHeartbeats 4000000 in
set_option maxRecDepth 100000 in
theorem mt_J7_fill_53178 (l : Launch) (dC : Nat → ClassId) (dI : Nat → Nat → Nat) (h0 : Nat) (k0 : ClassId) (sz : Nat) : Met l yJ7_fill_53178 (WS yJ7_fill_53178 cJ7_fill_53178 4 none) ({ frames := 0, cells := 0, slots := 0, locals := 0 }) (va_Pc [.ref h0, .int 0] (fun U => U.heap.size = sz ∧ va_P (dC, dI) vwCl [(h0, .inl (k0, 26, .inl (fun _ => 0)))] U.heap ∧ va_K (dC, dI) vwCl [(k0, .int)] U ∧ va_D (fun _ => True) [(h0, .inl (k0, 26, .inl (fun _ => 0)))])) (va_Qv (fun (u : Nat) => (u = 0)) (fun (_ : Nat) (t : State) => (va_P (dC, dI) vwCl [(h0, .inl (k0, 26, .inl (upd (upd (upd (upd (upd (upd (upd (upd (upd (upd (upd (upd (upd (upd (upd (upd (upd (upd (upd (upd (upd (upd (upd (upd (upd (upd (fun _ => 0) 0 0) 1 0) 2 0) 3 0) 4 0) 5 0) 6 0) 7 0) 8 0) 9 0) 10 0) 11 0) 12 0) 13 0) 14 0) 15 0) 16 0) 17 0) 18 0) 19 0) 20 0) 21 0) 22 0) 23 0) 24 0) 25 0)))] t.heap ∧ va_K (dC, dI) vwCl [(k0, .int)] t ∧ va_D (va_A [(h0, .inl (k0, 26, .inl (fun _ => 0)))] sz) [(h0, .inl (k0, 26, .inl (upd (upd (upd (upd (upd (upd (upd (upd (upd (upd (upd (upd (upd (upd (upd (upd (upd (upd (upd (upd (upd (upd (upd (upd (upd (upd (fun _ => 0) 0 0) 1 0) 2 0) 3 0) 4 0) 5 0) 6 0) 7 0) 8 0) 9 0) 10 0) 11 0) 12 0) 13 0) 14 0) 15 0) 16 0) 17 0) 18 0) 19 0) 20 0) 21 0) 22 0) 23 0) 24 0) 25 0)))])) (va_A [(h0, .inl (k0, 26, .inl (fun _ => 0)))] sz)) 0 0 (va_A [(h0, .inl (k0, 26, .inl (fun _ => 0)))] sz) := by
  refine Met.ofW (cc := cJ7_fill_53178) (maxL := 4) (ret := none) (by decide) rfl ?_
  intro p e s m args below meth c s₁ B hml hv
  obtain ⟨rfl, hsz, hP, hK, hD0⟩ := hv
  have hx := B.exec
  have hb := B.bytes
  have hr := B.returns
  have hts := atoms_spec (ws := WS yJ7_fill_53178 cJ7_fill_53178 4 none) B.pre
  have ht : ∀ w ∈ TW, w.before _ s = true := fun w h => hts w (List.mem_cons_of_mem _ h)
  have hown : s.vm.findClass "java/util/Arrays" = some m.cls := findClass_of_methodNamed B.named
  have hlocks := B.notSynchronized
  subst hsz
  have hD := hD0.self (sz := s.heap.size)
  generalize hAe : va_A [(h0, .inl (k0, 26, .inl (fun _ => 0)))] s.heap.size = A at hD ⊢
  have hA : ∀ q : Nat, s.heap.size ≤ q → A q := fun q h => by rw [← hAe]; exact Or.inr h
  have hS : va_S A s.heap s.heap [] := va_S.rf
  have hP : va_P (dC, dI) vwCl [(h0, .inl (k0, 26, .inl (fun _ => 0)))] s.heap := hP
  have hl := lv_entry ([.ref h0, .int 0]) (n := 4) (Nat.le_of_ble_eq_true rfl)
  rw [lg_entry_eq]
  generalize (lg_sl ([.ref h0, .int 0]) ++ List.replicate (4 - (lg_sl ([.ref h0, .int 0])).length) Slot.unset).toArray = ls at hl ⊢
  have hl : lv_has ls 4 [(0, .ref h0), (1, .int 0)] := hl
  clear hD0
  refine lv_iconst (v := 0) hx hb dJ7_fill_53178_0 (by decide) ?_
  refine lv_istore_n (lv' := [(2, .int 0), (0, .ref h0), (1, .int 0)]) hx hb dJ7_fill_53178_1 rfl hl (by decide) rfl (fun ls_1 hl_1 => ?_)
  clear hl
  refine lv_aload_n hx hb dJ7_fill_53178_2 rfl (lv_at hl_1 1 rfl) ?_
  refine va_alen hx hb hK hP 0 0 rfl rfl (v := 26) (show Int32.ofNat 26 = 26 by decide) dJ7_fill_53178_3 ?_
  refine lv_istore_n (lv' := [(3, .int 26), (2, .int 0), (0, .ref h0), (1, .int 0)]) hx hb dJ7_fill_53178_4 rfl hl_1 (by decide) rfl (fun ls_2 hl_2 => ?_)
  clear hl_1
  refine lv_iload_n hx hb dJ7_fill_53178_5 rfl (lv_at hl_2 1 rfl) ?_
  refine lv_iload_n hx hb dJ7_fill_53178_6 rfl (lv_at hl_2 0 rfl) ?_
  refine lv_icmp_ge (tgt := 20) hx hb dJ7_fill_53178_7 (by decide) (fun c_ => absurd c_ (by decide)) (fun _ => ?_)
  refine lv_aload_n hx hb dJ7_fill_53178_10 rfl (lv_at hl_2 2 rfl) ?_
  refine lv_iload_n hx hb dJ7_fill_53178_11 rfl (lv_at hl_2 1 rfl) ?_
  refine lv_iload_n hx hb dJ7_fill_53178_12 rfl (lv_at hl_2 3 rfl) ?_
  refine va_iast hx hb hK hP hD hS 0 0 rfl rfl (i := 0) (vpi (by decide)) dJ7_fill_53178_13 (fun H_3 locs_3 hP_3 hD_3 hS_3 => ?_)
  have hP_3 : va_P (dC, dI) vwCl [(h0, .inl (k0, 26, .inl (upd (fun _ => 0) 0 0)))] H_3 := hP_3
  have hD_3 : va_D A [(h0, .inl (k0, 26, .inl (upd (fun _ => 0) 0 0)))] := hD_3
  clear hP hD hS
  refine lv_iinc (v := 1) (lv' := [(2, .int 1), (3, .int 26), (0, .ref h0), (1, .int 0)]) hx hb dJ7_fill_53178_14 hl_2 (k := 1) rfl (by decide) (by decide) rfl (fun ls_4 hl_4 => ?_)
  clear hl_2
  refine lv_goto (tgt := 5) hx hb dJ7_fill_53178_17 (by decide) ?_
  refine lv_iload_n hx hb dJ7_fill_53178_5 rfl (lv_at hl_4 0 rfl) ?_
  refine lv_iload_n hx hb dJ7_fill_53178_6 rfl (lv_at hl_4 1 rfl) ?_
  refine lv_icmp_ge (tgt := 20) hx hb dJ7_fill_53178_7 (by decide) (fun c_ => absurd c_ (by decide)) (fun _ => ?_)
  refine lv_aload_n hx hb dJ7_fill_53178_10 rfl (lv_at hl_4 2 rfl) ?_
  refine lv_iload_n hx hb dJ7_fill_53178_11 rfl (lv_at hl_4 0 rfl) ?_
  refine lv_iload_n hx hb dJ7_fill_53178_12 rfl (lv_at hl_4 3 rfl) ?_
  refine va_iast hx hb hK hP_3 hD_3 hS_3 0 0 rfl rfl (i := 1) (vpi (by decide)) dJ7_fill_53178_13 (fun H_5 locs_5 hP_5 hD_5 hS_5 => ?_)
  have hP_5 : va_P (dC, dI) vwCl [(h0, .inl (k0, 26, .inl (upd (upd (fun _ => 0) 0 0) 1 0)))] H_5 := hP_5
  have hD_5 : va_D A [(h0, .inl (k0, 26, .inl (upd (upd (fun _ => 0) 0 0) 1 0)))] := hD_5
  clear hP_3 hD_3 hS_3
  refine lv_iinc (v := 2) (lv' := [(2, .int 2), (3, .int 26), (0, .ref h0), (1, .int 0)]) hx hb dJ7_fill_53178_14 hl_4 (k := 0) rfl (by decide) (by decide) rfl (fun ls_6 hl_6 => ?_)
  clear hl_4
  refine lv_goto (tgt := 5) hx hb dJ7_fill_53178_17 (by decide) ?_
  refine lv_iload_n hx hb dJ7_fill_53178_5 rfl (lv_at hl_6 0 rfl) ?_
  refine lv_iload_n hx hb dJ7_fill_53178_6 rfl (lv_at hl_6 1 rfl) ?_
  refine lv_icmp_ge (tgt := 20) hx hb dJ7_fill_53178_7 (by decide) (fun c_ => absurd c_ (by decide)) (fun _ => ?_)
  refine lv_aload_n hx hb dJ7_fill_53178_10 rfl (lv_at hl_6 2 rfl) ?_
  refine lv_iload_n hx hb dJ7_fill_53178_11 rfl (lv_at hl_6 0 rfl) ?_
  refine lv_iload_n hx hb dJ7_fill_53178_12 rfl (lv_at hl_6 3 rfl) ?_
  refine va_iast hx hb hK hP_5 hD_5 hS_5 0 0 rfl rfl (i := 2) (vpi (by decide)) dJ7_fill_53178_13 (fun H_7 locs_7 hP_7 hD_7 hS_7 => ?_)
  have hP_7 : va_P (dC, dI) vwCl [(h0, .inl (k0, 26, .inl (upd (upd (upd (fun _ => 0) 0 0) 1 0) 2 0)))] H_7 := hP_7
  have hD_7 : va_D A [(h0, .inl (k0, 26, .inl (upd (upd (upd (fun _ => 0) 0 0) 1 0) 2 0)))] := hD_7
  clear hP_5 hD_5 hS_5
  refine lv_iinc (v := 3) (lv' := [(2, .int 3), (3, .int 26), (0, .ref h0), (1, .int 0)]) hx hb dJ7_fill_53178_14 hl_6 (k := 0) rfl (by decide) (by decide) rfl (fun ls_8 hl_8 => ?_)
  clear hl_6
  refine lv_goto (tgt := 5) hx hb dJ7_fill_53178_17 (by decide) ?_
  refine lv_iload_n hx hb dJ7_fill_53178_5 rfl (lv_at hl_8 0 rfl) ?_
  refine lv_iload_n hx hb dJ7_fill_53178_6 rfl (lv_at hl_8 1 rfl) ?_
  refine lv_icmp_ge (tgt := 20) hx hb dJ7_fill_53178_7 (by decide) (fun c_ => absurd c_ (by decide)) (fun _ => ?_)
  refine lv_aload_n hx hb dJ7_fill_53178_10 rfl (lv_at hl_8 2 rfl) ?_
  refine lv_iload_n hx hb dJ7_fill_53178_11 rfl (lv_at hl_8 0 rfl) ?_
  refine lv_iload_n hx hb dJ7_fill_53178_12 rfl (lv_at hl_8 3 rfl) ?_
  refine va_iast hx hb hK hP_7 hD_7 hS_7 0 0 rfl rfl (i := 3) (vpi (by decide)) dJ7_fill_53178_13 (fun H_9 locs_9 hP_9 hD_9 hS_9 => ?_)
  have hP_9 : va_P (dC, dI) vwCl [(h0, .inl (k0, 26, .inl (upd (upd (upd (upd (fun _ => 0) 0 0) 1 0) 2 0) 3 0)))] H_9 := hP_9
  have hD_9 : va_D A [(h0, .inl (k0, 26, .inl (upd (upd (upd (upd (fun _ => 0) 0 0) 1 0) 2 0) 3 0)))] := hD_9
  clear hP_7 hD_7 hS_7
  refine lv_iinc (v := 4) (lv' := [(2, .int 4), (3, .int 26), (0, .ref h0), (1, .int 0)]) hx hb dJ7_fill_53178_14 hl_8 (k := 0) rfl (by decide) (by decide) rfl (fun ls_10 hl_10 => ?_)
  clear hl_8
  refine lv_goto (tgt := 5) hx hb dJ7_fill_53178_17 (by decide) ?_
  refine lv_iload_n hx hb dJ7_fill_53178_5 rfl (lv_at hl_10 0 rfl) ?_
  refine lv_iload_n hx hb dJ7_fill_53178_6 rfl (lv_at hl_10 1 rfl) ?_
  refine lv_icmp_ge (tgt := 20) hx hb dJ7_fill_53178_7 (by decide) (fun c_ => absurd c_ (by decide)) (fun _ => ?_)
  refine lv_aload_n hx hb dJ7_fill_53178_10 rfl (lv_at hl_10 2 rfl) ?_
  refine lv_iload_n hx hb dJ7_fill_53178_11 rfl (lv_at hl_10 0 rfl) ?_
  refine lv_iload_n hx hb dJ7_fill_53178_12 rfl (lv_at hl_10 3 rfl) ?_
  refine va_iast hx hb hK hP_9 hD_9 hS_9 0 0 rfl rfl (i := 4) (vpi (by decide)) dJ7_fill_53178_13 (fun H_11 locs_11 hP_11 hD_11 hS_11 => ?_)
  have hP_11 : va_P (dC, dI) vwCl [(h0, .inl (k0, 26, .inl (upd (upd (upd (upd (upd (fun _ => 0) 0 0) 1 0) 2 0) 3 0) 4 0)))] H_11 := hP_11
  have hD_11 : va_D A [(h0, .inl (k0, 26, .inl (upd (upd (upd (upd (upd (fun _ => 0) 0 0) 1 0) 2 0) 3 0) 4 0)))] := hD_11
  clear hP_9 hD_9 hS_9
  refine lv_iinc (v := 5) (lv' := [(2, .int 5), (3, .int 26), (0, .ref h0), (1, .int 0)]) hx hb dJ7_fill_53178_14 hl_10 (k := 0) rfl (by decide) (by decide) rfl (fun ls_12 hl_12 => ?_)
  clear hl_10
  refine lv_goto (tgt := 5) hx hb dJ7_fill_53178_17 (by decide) ?_
  refine lv_iload_n hx hb dJ7_fill_53178_5 rfl (lv_at hl_12 0 rfl) ?_
  refine lv_iload_n hx hb dJ7_fill_53178_6 rfl (lv_at hl_12 1 rfl) ?_
  refine lv_icmp_ge (tgt := 20) hx hb dJ7_fill_53178_7 (by decide) (fun c_ => absurd c_ (by decide)) (fun _ => ?_)
  refine lv_aload_n hx hb dJ7_fill_53178_10 rfl (lv_at hl_12 2 rfl) ?_
  refine lv_iload_n hx hb dJ7_fill_53178_11 rfl (lv_at hl_12 0 rfl) ?_
  refine lv_iload_n hx hb dJ7_fill_53178_12 rfl (lv_at hl_12 3 rfl) ?_
  refine va_iast hx hb hK hP_11 hD_11 hS_11 0 0 rfl rfl (i := 5) (vpi (by decide)) dJ7_fill_53178_13 (fun H_13 locs_13 hP_13 hD_13 hS_13 => ?_)
  have hP_13 : va_P (dC, dI) vwCl [(h0, .inl (k0, 26, .inl (upd (upd (upd (upd (upd (upd (fun _ => 0) 0 0) 1 0) 2 0) 3 0) 4 0) 5 0)))] H_13 := hP_13
  have hD_13 : va_D A [(h0, .inl (k0, 26, .inl (upd (upd (upd (upd (upd (upd (fun _ => 0) 0 0) 1 0) 2 0) 3 0) 4 0) 5 0)))] := hD_13
  clear hP_11 hD_11 hS_11
  refine lv_iinc (v := 6) (lv' := [(2, .int 6), (3, .int 26), (0, .ref h0), (1, .int 0)]) hx hb dJ7_fill_53178_14 hl_12 (k := 0) rfl (by decide) (by decide) rfl (fun ls_14 hl_14 => ?_)
  clear hl_12
  refine lv_goto (tgt := 5) hx hb dJ7_fill_53178_17 (by decide) ?_
  refine lv_iload_n hx hb dJ7_fill_53178_5 rfl (lv_at hl_14 0 rfl) ?_
  refine lv_iload_n hx hb dJ7_fill_53178_6 rfl (lv_at hl_14 1 rfl) ?_
  refine lv_icmp_ge (tgt := 20) hx hb dJ7_fill_53178_7 (by decide) (fun c_ => absurd c_ (by decide)) (fun _ => ?_)
  refine lv_aload_n hx hb dJ7_fill_53178_10 rfl (lv_at hl_14 2 rfl) ?_
  refine lv_iload_n hx hb dJ7_fill_53178_11 rfl (lv_at hl_14 0 rfl) ?_
  refine lv_iload_n hx hb dJ7_fill_53178_12 rfl (lv_at hl_14 3 rfl) ?_
  refine va_iast hx hb hK hP_13 hD_13 hS_13 0 0 rfl rfl (i := 6) (vpi (by decide)) dJ7_fill_53178_13 (fun H_15 locs_15 hP_15 hD_15 hS_15 => ?_)
  have hP_15 : va_P (dC, dI) vwCl [(h0, .inl (k0, 26, .inl (upd (upd (upd (upd (upd (upd (upd (fun _ => 0) 0 0) 1 0) 2 0) 3 0) 4 0) 5 0) 6 0)))] H_15 := hP_15
  have hD_15 : va_D A [(h0, .inl (k0, 26, .inl (upd (upd (upd (upd (upd (upd (upd (fun _ => 0) 0 0) 1 0) 2 0) 3 0) 4 0) 5 0) 6 0)))] := hD_15
  clear hP_13 hD_13 hS_13
  refine lv_iinc (v := 7) (lv' := [(2, .int 7), (3, .int 26), (0, .ref h0), (1, .int 0)]) hx hb dJ7_fill_53178_14 hl_14 (k := 0) rfl (by decide) (by decide) rfl (fun ls_16 hl_16 => ?_)
  clear hl_14
  refine lv_goto (tgt := 5) hx hb dJ7_fill_53178_17 (by decide) ?_
  refine lv_iload_n hx hb dJ7_fill_53178_5 rfl (lv_at hl_16 0 rfl) ?_
  refine lv_iload_n hx hb dJ7_fill_53178_6 rfl (lv_at hl_16 1 rfl) ?_
  refine lv_icmp_ge (tgt := 20) hx hb dJ7_fill_53178_7 (by decide) (fun c_ => absurd c_ (by decide)) (fun _ => ?_)
  refine lv_aload_n hx hb dJ7_fill_53178_10 rfl (lv_at hl_16 2 rfl) ?_
  refine lv_iload_n hx hb dJ7_fill_53178_11 rfl (lv_at hl_16 0 rfl) ?_
  refine lv_iload_n hx hb dJ7_fill_53178_12 rfl (lv_at hl_16 3 rfl) ?_
  refine va_iast hx hb hK hP_15 hD_15 hS_15 0 0 rfl rfl (i := 7) (vpi (by decide)) dJ7_fill_53178_13 (fun H_17 locs_17 hP_17 hD_17 hS_17 => ?_)
  have hP_17 : va_P (dC, dI) vwCl [(h0, .inl (k0, 26, .inl (upd (upd (upd (upd (upd (upd (upd (upd (fun _ => 0) 0 0) 1 0) 2 0) 3 0) 4 0) 5 0) 6 0) 7 0)))] H_17 := hP_17
  have hD_17 : va_D A [(h0, .inl (k0, 26, .inl (upd (upd (upd (upd (upd (upd (upd (upd (fun _ => 0) 0 0) 1 0) 2 0) 3 0) 4 0) 5 0) 6 0) 7 0)))] := hD_17
  clear hP_15 hD_15 hS_15
  refine lv_iinc (v := 8) (lv' := [(2, .int 8), (3, .int 26), (0, .ref h0), (1, .int 0)]) hx hb dJ7_fill_53178_14 hl_16 (k := 0) rfl (by decide) (by decide) rfl (fun ls_18 hl_18 => ?_)
  clear hl_16
  refine lv_goto (tgt := 5) hx hb dJ7_fill_53178_17 (by decide) ?_
  refine lv_iload_n hx hb dJ7_fill_53178_5 rfl (lv_at hl_18 0 rfl) ?_
  refine lv_iload_n hx hb dJ7_fill_53178_6 rfl (lv_at hl_18 1 rfl) ?_
  refine lv_icmp_ge (tgt := 20) hx hb dJ7_fill_53178_7 (by decide) (fun c_ => absurd c_ (by decide)) (fun _ => ?_)
  refine lv_aload_n hx hb dJ7_fill_53178_10 rfl (lv_at hl_18 2 rfl) ?_
  refine lv_iload_n hx hb dJ7_fill_53178_11 rfl (lv_at hl_18 0 rfl) ?_
  refine lv_iload_n hx hb dJ7_fill_53178_12 rfl (lv_at hl_18 3 rfl) ?_
  refine va_iast hx hb hK hP_17 hD_17 hS_17 0 0 rfl rfl (i := 8) (vpi (by decide)) dJ7_fill_53178_13 (fun H_19 locs_19 hP_19 hD_19 hS_19 => ?_)
  have hP_19 : va_P (dC, dI) vwCl [(h0, .inl (k0, 26, .inl (upd (upd (upd (upd (upd (upd (upd (upd (upd (fun _ => 0) 0 0) 1 0) 2 0) 3 0) 4 0) 5 0) 6 0) 7 0) 8 0)))] H_19 := hP_19
  have hD_19 : va_D A [(h0, .inl (k0, 26, .inl (upd (upd (upd (upd (upd (upd (upd (upd (upd (fun _ => 0) 0 0) 1 0) 2 0) 3 0) 4 0) 5 0) 6 0) 7 0) 8 0)))] := hD_19
  clear hP_17 hD_17 hS_17
  refine lv_iinc (v := 9) (lv' := [(2, .int 9), (3, .int 26), (0, .ref h0), (1, .int 0)]) hx hb dJ7_fill_53178_14 hl_18 (k := 0) rfl (by decide) (by decide) rfl (fun ls_20 hl_20 => ?_)
  clear hl_18
  refine lv_goto (tgt := 5) hx hb dJ7_fill_53178_17 (by decide) ?_
  refine lv_iload_n hx hb dJ7_fill_53178_5 rfl (lv_at hl_20 0 rfl) ?_
  refine lv_iload_n hx hb dJ7_fill_53178_6 rfl (lv_at hl_20 1 rfl) ?_
  refine lv_icmp_ge (tgt := 20) hx hb dJ7_fill_53178_7 (by decide) (fun c_ => absurd c_ (by decide)) (fun _ => ?_)
  refine lv_aload_n hx hb dJ7_fill_53178_10 rfl (lv_at hl_20 2 rfl) ?_
  refine lv_iload_n hx hb dJ7_fill_53178_11 rfl (lv_at hl_20 0 rfl) ?_
  refine lv_iload_n hx hb dJ7_fill_53178_12 rfl (lv_at hl_20 3 rfl) ?_
  refine va_iast hx hb hK hP_19 hD_19 hS_19 0 0 rfl rfl (i := 9) (vpi (by decide)) dJ7_fill_53178_13 (fun H_21 locs_21 hP_21 hD_21 hS_21 => ?_)
  have hP_21 : va_P (dC, dI) vwCl [(h0, .inl (k0, 26, .inl (upd (upd (upd (upd (upd (upd (upd (upd (upd (upd (fun _ => 0) 0 0) 1 0) 2 0) 3 0) 4 0) 5 0) 6 0) 7 0) 8 0) 9 0)))] H_21 := hP_21
  have hD_21 : va_D A [(h0, .inl (k0, 26, .inl (upd (upd (upd (upd (upd (upd (upd (upd (upd (upd (fun _ => 0) 0 0) 1 0) 2 0) 3 0) 4 0) 5 0) 6 0) 7 0) 8 0) 9 0)))] := hD_21
  clear hP_19 hD_19 hS_19
  refine lv_iinc (v := 10) (lv' := [(2, .int 10), (3, .int 26), (0, .ref h0), (1, .int 0)]) hx hb dJ7_fill_53178_14 hl_20 (k := 0) rfl (by decide) (by decide) rfl (fun ls_22 hl_22 => ?_)
  clear hl_20
  refine lv_goto (tgt := 5) hx hb dJ7_fill_53178_17 (by decide) ?_
  refine lv_iload_n hx hb dJ7_fill_53178_5 rfl (lv_at hl_22 0 rfl) ?_
  refine lv_iload_n hx hb dJ7_fill_53178_6 rfl (lv_at hl_22 1 rfl) ?_
  refine lv_icmp_ge (tgt := 20) hx hb dJ7_fill_53178_7 (by decide) (fun c_ => absurd c_ (by decide)) (fun _ => ?_)
  refine lv_aload_n hx hb dJ7_fill_53178_10 rfl (lv_at hl_22 2 rfl) ?_
  refine lv_iload_n hx hb dJ7_fill_53178_11 rfl (lv_at hl_22 0 rfl) ?_
  refine lv_iload_n hx hb dJ7_fill_53178_12 rfl (lv_at hl_22 3 rfl) ?_
  refine va_iast hx hb hK hP_21 hD_21 hS_21 0 0 rfl rfl (i := 10) (vpi (by decide)) dJ7_fill_53178_13 (fun H_23 locs_23 hP_23 hD_23 hS_23 => ?_)
  have hP_23 : va_P (dC, dI) vwCl [(h0, .inl (k0, 26, .inl (upd (upd (upd (upd (upd (upd (upd (upd (upd (upd (upd (fun _ => 0) 0 0) 1 0) 2 0) 3 0) 4 0) 5 0) 6 0) 7 0) 8 0) 9 0) 10 0)))] H_23 := hP_23
  have hD_23 : va_D A [(h0, .inl (k0, 26, .inl (upd (upd (upd (upd (upd (upd (upd (upd (upd (upd (upd (fun _ => 0) 0 0) 1 0) 2 0) 3 0) 4 0) 5 0) 6 0) 7 0) 8 0) 9 0) 10 0)))] := hD_23
  clear hP_21 hD_21 hS_21
  refine lv_iinc (v := 11) (lv' := [(2, .int 11), (3, .int 26), (0, .ref h0), (1, .int 0)]) hx hb dJ7_fill_53178_14 hl_22 (k := 0) rfl (by decide) (by decide) rfl (fun ls_24 hl_24 => ?_)
  clear hl_22
  refine lv_goto (tgt := 5) hx hb dJ7_fill_53178_17 (by decide) ?_
  refine lv_iload_n hx hb dJ7_fill_53178_5 rfl (lv_at hl_24 0 rfl) ?_
  refine lv_iload_n hx hb dJ7_fill_53178_6 rfl (lv_at hl_24 1 rfl) ?_
  refine lv_icmp_ge (tgt := 20) hx hb dJ7_fill_53178_7 (by decide) (fun c_ => absurd c_ (by decide)) (fun _ => ?_)
  refine lv_aload_n hx hb dJ7_fill_53178_10 rfl (lv_at hl_24 2 rfl) ?_
  refine lv_iload_n hx hb dJ7_fill_53178_11 rfl (lv_at hl_24 0 rfl) ?_
  refine lv_iload_n hx hb dJ7_fill_53178_12 rfl (lv_at hl_24 3 rfl) ?_
  refine va_iast hx hb hK hP_23 hD_23 hS_23 0 0 rfl rfl (i := 11) (vpi (by decide)) dJ7_fill_53178_13 (fun H_25 locs_25 hP_25 hD_25 hS_25 => ?_)
  have hP_25 : va_P (dC, dI) vwCl [(h0, .inl (k0, 26, .inl (upd (upd (upd (upd (upd (upd (upd (upd (upd (upd (upd (upd (fun _ => 0) 0 0) 1 0) 2 0) 3 0) 4 0) 5 0) 6 0) 7 0) 8 0) 9 0) 10 0) 11 0)))] H_25 := hP_25
  have hD_25 : va_D A [(h0, .inl (k0, 26, .inl (upd (upd (upd (upd (upd (upd (upd (upd (upd (upd (upd (upd (fun _ => 0) 0 0) 1 0) 2 0) 3 0) 4 0) 5 0) 6 0) 7 0) 8 0) 9 0) 10 0) 11 0)))] := hD_25
  clear hP_23 hD_23 hS_23
  refine lv_iinc (v := 12) (lv' := [(2, .int 12), (3, .int 26), (0, .ref h0), (1, .int 0)]) hx hb dJ7_fill_53178_14 hl_24 (k := 0) rfl (by decide) (by decide) rfl (fun ls_26 hl_26 => ?_)
  clear hl_24
  refine lv_goto (tgt := 5) hx hb dJ7_fill_53178_17 (by decide) ?_
  refine lv_iload_n hx hb dJ7_fill_53178_5 rfl (lv_at hl_26 0 rfl) ?_
  refine lv_iload_n hx hb dJ7_fill_53178_6 rfl (lv_at hl_26 1 rfl) ?_
  refine lv_icmp_ge (tgt := 20) hx hb dJ7_fill_53178_7 (by decide) (fun c_ => absurd c_ (by decide)) (fun _ => ?_)
  refine lv_aload_n hx hb dJ7_fill_53178_10 rfl (lv_at hl_26 2 rfl) ?_
  refine lv_iload_n hx hb dJ7_fill_53178_11 rfl (lv_at hl_26 0 rfl) ?_
  refine lv_iload_n hx hb dJ7_fill_53178_12 rfl (lv_at hl_26 3 rfl) ?_
  refine va_iast hx hb hK hP_25 hD_25 hS_25 0 0 rfl rfl (i := 12) (vpi (by decide)) dJ7_fill_53178_13 (fun H_27 locs_27 hP_27 hD_27 hS_27 => ?_)
  have hP_27 : va_P (dC, dI) vwCl [(h0, .inl (k0, 26, .inl (upd (upd (upd (upd (upd (upd (upd (upd (upd (upd (upd (upd (upd (fun _ => 0) 0 0) 1 0) 2 0) 3 0) 4 0) 5 0) 6 0) 7 0) 8 0) 9 0) 10 0) 11 0) 12 0)))] H_27 := hP_27
  have hD_27 : va_D A [(h0, .inl (k0, 26, .inl (upd (upd (upd (upd (upd (upd (upd (upd (upd (upd (upd (upd (upd (fun _ => 0) 0 0) 1 0) 2 0) 3 0) 4 0) 5 0) 6 0) 7 0) 8 0) 9 0) 10 0) 11 0) 12 0)))] := hD_27
  clear hP_25 hD_25 hS_25
  refine lv_iinc (v := 13) (lv' := [(2, .int 13), (3, .int 26), (0, .ref h0), (1, .int 0)]) hx hb dJ7_fill_53178_14 hl_26 (k := 0) rfl (by decide) (by decide) rfl (fun ls_28 hl_28 => ?_)
  clear hl_26
  refine lv_goto (tgt := 5) hx hb dJ7_fill_53178_17 (by decide) ?_
  refine lv_iload_n hx hb dJ7_fill_53178_5 rfl (lv_at hl_28 0 rfl) ?_
  refine lv_iload_n hx hb dJ7_fill_53178_6 rfl (lv_at hl_28 1 rfl) ?_
  refine lv_icmp_ge (tgt := 20) hx hb dJ7_fill_53178_7 (by decide) (fun c_ => absurd c_ (by decide)) (fun _ => ?_)
  refine lv_aload_n hx hb dJ7_fill_53178_10 rfl (lv_at hl_28 2 rfl) ?_
  refine lv_iload_n hx hb dJ7_fill_53178_11 rfl (lv_at hl_28 0 rfl) ?_
  refine lv_iload_n hx hb dJ7_fill_53178_12 rfl (lv_at hl_28 3 rfl) ?_
  refine va_iast hx hb hK hP_27 hD_27 hS_27 0 0 rfl rfl (i := 13) (vpi (by decide)) dJ7_fill_53178_13 (fun H_29 locs_29 hP_29 hD_29 hS_29 => ?_)
  have hP_29 : va_P (dC, dI) vwCl [(h0, .inl (k0, 26, .inl (upd (upd (upd (upd (upd (upd (upd (upd (upd (upd (upd (upd (upd (upd (fun _ => 0) 0 0) 1 0) 2 0) 3 0) 4 0) 5 0) 6 0) 7 0) 8 0) 9 0) 10 0) 11 0) 12 0) 13 0)))] H_29 := hP_29
  have hD_29 : va_D A [(h0, .inl (k0, 26, .inl (upd (upd (upd (upd (upd (upd (upd (upd (upd (upd (upd (upd (upd (upd (fun _ => 0) 0 0) 1 0) 2 0) 3 0) 4 0) 5 0) 6 0) 7 0) 8 0) 9 0) 10 0) 11 0) 12 0) 13 0)))] := hD_29
  clear hP_27 hD_27 hS_27
  refine lv_iinc (v := 14) (lv' := [(2, .int 14), (3, .int 26), (0, .ref h0), (1, .int 0)]) hx hb dJ7_fill_53178_14 hl_28 (k := 0) rfl (by decide) (by decide) rfl (fun ls_30 hl_30 => ?_)
  clear hl_28
  refine lv_goto (tgt := 5) hx hb dJ7_fill_53178_17 (by decide) ?_
  refine lv_iload_n hx hb dJ7_fill_53178_5 rfl (lv_at hl_30 0 rfl) ?_
  refine lv_iload_n hx hb dJ7_fill_53178_6 rfl (lv_at hl_30 1 rfl) ?_
  refine lv_icmp_ge (tgt := 20) hx hb dJ7_fill_53178_7 (by decide) (fun c_ => absurd c_ (by decide)) (fun _ => ?_)
  refine lv_aload_n hx hb dJ7_fill_53178_10 rfl (lv_at hl_30 2 rfl) ?_
  refine lv_iload_n hx hb dJ7_fill_53178_11 rfl (lv_at hl_30 0 rfl) ?_
  refine lv_iload_n hx hb dJ7_fill_53178_12 rfl (lv_at hl_30 3 rfl) ?_
  refine va_iast hx hb hK hP_29 hD_29 hS_29 0 0 rfl rfl (i := 14) (vpi (by decide)) dJ7_fill_53178_13 (fun H_31 locs_31 hP_31 hD_31 hS_31 => ?_)
  have hP_31 : va_P (dC, dI) vwCl [(h0, .inl (k0, 26, .inl (upd (upd (upd (upd (upd (upd (upd (upd (upd (upd (upd (upd (upd (upd (upd (fun _ => 0) 0 0) 1 0) 2 0) 3 0) 4 0) 5 0) 6 0) 7 0) 8 0) 9 0) 10 0) 11 0) 12 0) 13 0) 14 0)))] H_31 := hP_31
  have hD_31 : va_D A [(h0, .inl (k0, 26, .inl (upd (upd (upd (upd (upd (upd (upd (upd (upd (upd (upd (upd (upd (upd (upd (fun _ => 0) 0 0) 1 0) 2 0) 3 0) 4 0) 5 0) 6 0) 7 0) 8 0) 9 0) 10 0) 11 0) 12 0) 13 0) 14 0)))] := hD_31
  clear hP_29 hD_29 hS_29
  refine lv_iinc (v := 15) (lv' := [(2, .int 15), (3, .int 26), (0, .ref h0), (1, .int 0)]) hx hb dJ7_fill_53178_14 hl_30 (k := 0) rfl (by decide) (by decide) rfl (fun ls_32 hl_32 => ?_)
  clear hl_30
  refine lv_goto (tgt := 5) hx hb dJ7_fill_53178_17 (by decide) ?_
  refine lv_iload_n hx hb dJ7_fill_53178_5 rfl (lv_at hl_32 0 rfl) ?_
  refine lv_iload_n hx hb dJ7_fill_53178_6 rfl (lv_at hl_32 1 rfl) ?_
  refine lv_icmp_ge (tgt := 20) hx hb dJ7_fill_53178_7 (by decide) (fun c_ => absurd c_ (by decide)) (fun _ => ?_)
  refine lv_aload_n hx hb dJ7_fill_53178_10 rfl (lv_at hl_32 2 rfl) ?_
  refine lv_iload_n hx hb dJ7_fill_53178_11 rfl (lv_at hl_32 0 rfl) ?_
  refine lv_iload_n hx hb dJ7_fill_53178_12 rfl (lv_at hl_32 3 rfl) ?_
  refine va_iast hx hb hK hP_31 hD_31 hS_31 0 0 rfl rfl (i := 15) (vpi (by decide)) dJ7_fill_53178_13 (fun H_33 locs_33 hP_33 hD_33 hS_33 => ?_)
  have hP_33 : va_P (dC, dI) vwCl [(h0, .inl (k0, 26, .inl (upd (upd (upd (upd (upd (upd (upd (upd (upd (upd (upd (upd (upd (upd (upd (upd (fun _ => 0) 0 0) 1 0) 2 0) 3 0) 4 0) 5 0) 6 0) 7 0) 8 0) 9 0) 10 0) 11 0) 12 0) 13 0) 14 0) 15 0)))] H_33 := hP_33
  have hD_33 : va_D A [(h0, .inl (k0, 26, .inl (upd (upd (upd (upd (upd (upd (upd (upd (upd (upd (upd (upd (upd (upd (upd (upd (fun _ => 0) 0 0) 1 0) 2 0) 3 0) 4 0) 5 0) 6 0) 7 0) 8 0) 9 0) 10 0) 11 0) 12 0) 13 0) 14 0) 15 0)))] := hD_33
  clear hP_31 hD_31 hS_31
  refine lv_iinc (v := 16) (lv' := [(2, .int 16), (3, .int 26), (0, .ref h0), (1, .int 0)]) hx hb dJ7_fill_53178_14 hl_32 (k := 0) rfl (by decide) (by decide) rfl (fun ls_34 hl_34 => ?_)
  clear hl_32
  refine lv_goto (tgt := 5) hx hb dJ7_fill_53178_17 (by decide) ?_
  refine lv_iload_n hx hb dJ7_fill_53178_5 rfl (lv_at hl_34 0 rfl) ?_
  refine lv_iload_n hx hb dJ7_fill_53178_6 rfl (lv_at hl_34 1 rfl) ?_
  refine lv_icmp_ge (tgt := 20) hx hb dJ7_fill_53178_7 (by decide) (fun c_ => absurd c_ (by decide)) (fun _ => ?_)
  refine lv_aload_n hx hb dJ7_fill_53178_10 rfl (lv_at hl_34 2 rfl) ?_
  refine lv_iload_n hx hb dJ7_fill_53178_11 rfl (lv_at hl_34 0 rfl) ?_
  refine lv_iload_n hx hb dJ7_fill_53178_12 rfl (lv_at hl_34 3 rfl) ?_
  refine va_iast hx hb hK hP_33 hD_33 hS_33 0 0 rfl rfl (i := 16) (vpi (by decide)) dJ7_fill_53178_13 (fun H_35 locs_35 hP_35 hD_35 hS_35 => ?_)
  have hP_35 : va_P (dC, dI) vwCl [(h0, .inl (k0, 26, .inl (upd (upd (upd (upd (upd (upd (upd (upd (upd (upd (upd (upd (upd (upd (upd (upd (upd (fun _ => 0) 0 0) 1 0) 2 0) 3 0) 4 0) 5 0) 6 0) 7 0) 8 0) 9 0) 10 0) 11 0) 12 0) 13 0) 14 0) 15 0) 16 0)))] H_35 := hP_35
  have hD_35 : va_D A [(h0, .inl (k0, 26, .inl (upd (upd (upd (upd (upd (upd (upd (upd (upd (upd (upd (upd (upd (upd (upd (upd (upd (fun _ => 0) 0 0) 1 0) 2 0) 3 0) 4 0) 5 0) 6 0) 7 0) 8 0) 9 0) 10 0) 11 0) 12 0) 13 0) 14 0) 15 0) 16 0)))] := hD_35
  clear hP_33 hD_33 hS_33
  refine lv_iinc (v := 17) (lv' := [(2, .int 17), (3, .int 26), (0, .ref h0), (1, .int 0)]) hx hb dJ7_fill_53178_14 hl_34 (k := 0) rfl (by decide) (by decide) rfl (fun ls_36 hl_36 => ?_)
  clear hl_34
  refine lv_goto (tgt := 5) hx hb dJ7_fill_53178_17 (by decide) ?_
  refine lv_iload_n hx hb dJ7_fill_53178_5 rfl (lv_at hl_36 0 rfl) ?_
  refine lv_iload_n hx hb dJ7_fill_53178_6 rfl (lv_at hl_36 1 rfl) ?_
  refine lv_icmp_ge (tgt := 20) hx hb dJ7_fill_53178_7 (by decide) (fun c_ => absurd c_ (by decide)) (fun _ => ?_)
  refine lv_aload_n hx hb dJ7_fill_53178_10 rfl (lv_at hl_36 2 rfl) ?_
  refine lv_iload_n hx hb dJ7_fill_53178_11 rfl (lv_at hl_36 0 rfl) ?_
  refine lv_iload_n hx hb dJ7_fill_53178_12 rfl (lv_at hl_36 3 rfl) ?_
  refine va_iast hx hb hK hP_35 hD_35 hS_35 0 0 rfl rfl (i := 17) (vpi (by decide)) dJ7_fill_53178_13 (fun H_37 locs_37 hP_37 hD_37 hS_37 => ?_)
  have hP_37 : va_P (dC, dI) vwCl [(h0, .inl (k0, 26, .inl (upd (upd (upd (upd (upd (upd (upd (upd (upd (upd (upd (upd (upd (upd (upd (upd (upd (upd (fun _ => 0) 0 0) 1 0) 2 0) 3 0) 4 0) 5 0) 6 0) 7 0) 8 0) 9 0) 10 0) 11 0) 12 0) 13 0) 14 0) 15 0) 16 0) 17 0)))] H_37 := hP_37
  have hD_37 : va_D A [(h0, .inl (k0, 26, .inl (upd (upd (upd (upd (upd (upd (upd (upd (upd (upd (upd (upd (upd (upd (upd (upd (upd (upd (fun _ => 0) 0 0) 1 0) 2 0) 3 0) 4 0) 5 0) 6 0) 7 0) 8 0) 9 0) 10 0) 11 0) 12 0) 13 0) 14 0) 15 0) 16 0) 17 0)))] := hD_37
  clear hP_35 hD_35 hS_35
  refine lv_iinc (v := 18) (lv' := [(2, .int 18), (3, .int 26), (0, .ref h0), (1, .int 0)]) hx hb dJ7_fill_53178_14 hl_36 (k := 0) rfl (by decide) (by decide) rfl (fun ls_38 hl_38 => ?_)
  clear hl_36
  refine lv_goto (tgt := 5) hx hb dJ7_fill_53178_17 (by decide) ?_
  refine lv_iload_n hx hb dJ7_fill_53178_5 rfl (lv_at hl_38 0 rfl) ?_
  refine lv_iload_n hx hb dJ7_fill_53178_6 rfl (lv_at hl_38 1 rfl) ?_
  refine lv_icmp_ge (tgt := 20) hx hb dJ7_fill_53178_7 (by decide) (fun c_ => absurd c_ (by decide)) (fun _ => ?_)
  refine lv_aload_n hx hb dJ7_fill_53178_10 rfl (lv_at hl_38 2 rfl) ?_
  refine lv_iload_n hx hb dJ7_fill_53178_11 rfl (lv_at hl_38 0 rfl) ?_
  refine lv_iload_n hx hb dJ7_fill_53178_12 rfl (lv_at hl_38 3 rfl) ?_
  refine va_iast hx hb hK hP_37 hD_37 hS_37 0 0 rfl rfl (i := 18) (vpi (by decide)) dJ7_fill_53178_13 (fun H_39 locs_39 hP_39 hD_39 hS_39 => ?_)
  have hP_39 : va_P (dC, dI) vwCl [(h0, .inl (k0, 26, .inl (upd (upd (upd (upd (upd (upd (upd (upd (upd (upd (upd (upd (upd (upd (upd (upd (upd (upd (upd (fun _ => 0) 0 0) 1 0) 2 0) 3 0) 4 0) 5 0) 6 0) 7 0) 8 0) 9 0) 10 0) 11 0) 12 0) 13 0) 14 0) 15 0) 16 0) 17 0) 18 0)))] H_39 := hP_39
  have hD_39 : va_D A [(h0, .inl (k0, 26, .inl (upd (upd (upd (upd (upd (upd (upd (upd (upd (upd (upd (upd (upd (upd (upd (upd (upd (upd (upd (fun _ => 0) 0 0) 1 0) 2 0) 3 0) 4 0) 5 0) 6 0) 7 0) 8 0) 9 0) 10 0) 11 0) 12 0) 13 0) 14 0) 15 0) 16 0) 17 0) 18 0)))] := hD_39
  clear hP_37 hD_37 hS_37
  refine lv_iinc (v := 19) (lv' := [(2, .int 19), (3, .int 26), (0, .ref h0), (1, .int 0)]) hx hb dJ7_fill_53178_14 hl_38 (k := 0) rfl (by decide) (by decide) rfl (fun ls_40 hl_40 => ?_)
  clear hl_38
  refine lv_goto (tgt := 5) hx hb dJ7_fill_53178_17 (by decide) ?_
  refine lv_iload_n hx hb dJ7_fill_53178_5 rfl (lv_at hl_40 0 rfl) ?_
  refine lv_iload_n hx hb dJ7_fill_53178_6 rfl (lv_at hl_40 1 rfl) ?_
  refine lv_icmp_ge (tgt := 20) hx hb dJ7_fill_53178_7 (by decide) (fun c_ => absurd c_ (by decide)) (fun _ => ?_)
  refine lv_aload_n hx hb dJ7_fill_53178_10 rfl (lv_at hl_40 2 rfl) ?_
  refine lv_iload_n hx hb dJ7_fill_53178_11 rfl (lv_at hl_40 0 rfl) ?_
  refine lv_iload_n hx hb dJ7_fill_53178_12 rfl (lv_at hl_40 3 rfl) ?_
  refine va_iast hx hb hK hP_39 hD_39 hS_39 0 0 rfl rfl (i := 19) (vpi (by decide)) dJ7_fill_53178_13 (fun H_41 locs_41 hP_41 hD_41 hS_41 => ?_)
  have hP_41 : va_P (dC, dI) vwCl [(h0, .inl (k0, 26, .inl (upd (upd (upd (upd (upd (upd (upd (upd (upd (upd (upd (upd (upd (upd (upd (upd (upd (upd (upd (upd (fun _ => 0) 0 0) 1 0) 2 0) 3 0) 4 0) 5 0) 6 0) 7 0) 8 0) 9 0) 10 0) 11 0) 12 0) 13 0) 14 0) 15 0) 16 0) 17 0) 18 0) 19 0)))] H_41 := hP_41
  have hD_41 : va_D A [(h0, .inl (k0, 26, .inl (upd (upd (upd (upd (upd (upd (upd (upd (upd (upd (upd (upd (upd (upd (upd (upd (upd (upd (upd (upd (fun _ => 0) 0 0) 1 0) 2 0) 3 0) 4 0) 5 0) 6 0) 7 0) 8 0) 9 0) 10 0) 11 0) 12 0) 13 0) 14 0) 15 0) 16 0) 17 0) 18 0) 19 0)))] := hD_41
  clear hP_39 hD_39 hS_39
  refine lv_iinc (v := 20) (lv' := [(2, .int 20), (3, .int 26), (0, .ref h0), (1, .int 0)]) hx hb dJ7_fill_53178_14 hl_40 (k := 0) rfl (by decide) (by decide) rfl (fun ls_42 hl_42 => ?_)
  clear hl_40
  refine lv_goto (tgt := 5) hx hb dJ7_fill_53178_17 (by decide) ?_
  refine lv_iload_n hx hb dJ7_fill_53178_5 rfl (lv_at hl_42 0 rfl) ?_
  refine lv_iload_n hx hb dJ7_fill_53178_6 rfl (lv_at hl_42 1 rfl) ?_
  refine lv_icmp_ge (tgt := 20) hx hb dJ7_fill_53178_7 (by decide) (fun c_ => absurd c_ (by decide)) (fun _ => ?_)
  refine lv_aload_n hx hb dJ7_fill_53178_10 rfl (lv_at hl_42 2 rfl) ?_
  refine lv_iload_n hx hb dJ7_fill_53178_11 rfl (lv_at hl_42 0 rfl) ?_
  refine lv_iload_n hx hb dJ7_fill_53178_12 rfl (lv_at hl_42 3 rfl) ?_
  refine va_iast hx hb hK hP_41 hD_41 hS_41 0 0 rfl rfl (i := 20) (vpi (by decide)) dJ7_fill_53178_13 (fun H_43 locs_43 hP_43 hD_43 hS_43 => ?_)
  have hP_43 : va_P (dC, dI) vwCl [(h0, .inl (k0, 26, .inl (upd (upd (upd (upd (upd (upd (upd (upd (upd (upd (upd (upd (upd (upd (upd (upd (upd (upd (upd (upd (upd (fun _ => 0) 0 0) 1 0) 2 0) 3 0) 4 0) 5 0) 6 0) 7 0) 8 0) 9 0) 10 0) 11 0) 12 0) 13 0) 14 0) 15 0) 16 0) 17 0) 18 0) 19 0) 20 0)))] H_43 := hP_43
  have hD_43 : va_D A [(h0, .inl (k0, 26, .inl (upd (upd (upd (upd (upd (upd (upd (upd (upd (upd (upd (upd (upd (upd (upd (upd (upd (upd (upd (upd (upd (fun _ => 0) 0 0) 1 0) 2 0) 3 0) 4 0) 5 0) 6 0) 7 0) 8 0) 9 0) 10 0) 11 0) 12 0) 13 0) 14 0) 15 0) 16 0) 17 0) 18 0) 19 0) 20 0)))] := hD_43
  clear hP_41 hD_41 hS_41
  refine lv_iinc (v := 21) (lv' := [(2, .int 21), (3, .int 26), (0, .ref h0), (1, .int 0)]) hx hb dJ7_fill_53178_14 hl_42 (k := 0) rfl (by decide) (by decide) rfl (fun ls_44 hl_44 => ?_)
  clear hl_42
  refine lv_goto (tgt := 5) hx hb dJ7_fill_53178_17 (by decide) ?_
  refine lv_iload_n hx hb dJ7_fill_53178_5 rfl (lv_at hl_44 0 rfl) ?_
  refine lv_iload_n hx hb dJ7_fill_53178_6 rfl (lv_at hl_44 1 rfl) ?_
  refine lv_icmp_ge (tgt := 20) hx hb dJ7_fill_53178_7 (by decide) (fun c_ => absurd c_ (by decide)) (fun _ => ?_)
  refine lv_aload_n hx hb dJ7_fill_53178_10 rfl (lv_at hl_44 2 rfl) ?_
  refine lv_iload_n hx hb dJ7_fill_53178_11 rfl (lv_at hl_44 0 rfl) ?_
  refine lv_iload_n hx hb dJ7_fill_53178_12 rfl (lv_at hl_44 3 rfl) ?_
  refine va_iast hx hb hK hP_43 hD_43 hS_43 0 0 rfl rfl (i := 21) (vpi (by decide)) dJ7_fill_53178_13 (fun H_45 locs_45 hP_45 hD_45 hS_45 => ?_)
  have hP_45 : va_P (dC, dI) vwCl [(h0, .inl (k0, 26, .inl (upd (upd (upd (upd (upd (upd (upd (upd (upd (upd (upd (upd (upd (upd (upd (upd (upd (upd (upd (upd (upd (upd (fun _ => 0) 0 0) 1 0) 2 0) 3 0) 4 0) 5 0) 6 0) 7 0) 8 0) 9 0) 10 0) 11 0) 12 0) 13 0) 14 0) 15 0) 16 0) 17 0) 18 0) 19 0) 20 0) 21 0)))] H_45 := hP_45
  have hD_45 : va_D A [(h0, .inl (k0, 26, .inl (upd (upd (upd (upd (upd (upd (upd (upd (upd (upd (upd (upd (upd (upd (upd (upd (upd (upd (upd (upd (upd (upd (fun _ => 0) 0 0) 1 0) 2 0) 3 0) 4 0) 5 0) 6 0) 7 0) 8 0) 9 0) 10 0) 11 0) 12 0) 13 0) 14 0) 15 0) 16 0) 17 0) 18 0) 19 0) 20 0) 21 0)))] := hD_45
  clear hP_43 hD_43 hS_43
  refine lv_iinc (v := 22) (lv' := [(2, .int 22), (3, .int 26), (0, .ref h0), (1, .int 0)]) hx hb dJ7_fill_53178_14 hl_44 (k := 0) rfl (by decide) (by decide) rfl (fun ls_46 hl_46 => ?_)
  clear hl_44
  refine lv_goto (tgt := 5) hx hb dJ7_fill_53178_17 (by decide) ?_
  refine lv_iload_n hx hb dJ7_fill_53178_5 rfl (lv_at hl_46 0 rfl) ?_
  refine lv_iload_n hx hb dJ7_fill_53178_6 rfl (lv_at hl_46 1 rfl) ?_
  refine lv_icmp_ge (tgt := 20) hx hb dJ7_fill_53178_7 (by decide) (fun c_ => absurd c_ (by decide)) (fun _ => ?_)
  refine lv_aload_n hx hb dJ7_fill_53178_10 rfl (lv_at hl_46 2 rfl) ?_
  refine lv_iload_n hx hb dJ7_fill_53178_11 rfl (lv_at hl_46 0 rfl) ?_
  refine lv_iload_n hx hb dJ7_fill_53178_12 rfl (lv_at hl_46 3 rfl) ?_
  refine va_iast hx hb hK hP_45 hD_45 hS_45 0 0 rfl rfl (i := 22) (vpi (by decide)) dJ7_fill_53178_13 (fun H_47 locs_47 hP_47 hD_47 hS_47 => ?_)
  have hP_47 : va_P (dC, dI) vwCl [(h0, .inl (k0, 26, .inl (upd (upd (upd (upd (upd (upd (upd (upd (upd (upd (upd (upd (upd (upd (upd (upd (upd (upd (upd (upd (upd (upd (upd (fun _ => 0) 0 0) 1 0) 2 0) 3 0) 4 0) 5 0) 6 0) 7 0) 8 0) 9 0) 10 0) 11 0) 12 0) 13 0) 14 0) 15 0) 16 0) 17 0) 18 0) 19 0) 20 0) 21 0) 22 0)))] H_47 := hP_47
  have hD_47 : va_D A [(h0, .inl (k0, 26, .inl (upd (upd (upd (upd (upd (upd (upd (upd (upd (upd (upd (upd (upd (upd (upd (upd (upd (upd (upd (upd (upd (upd (upd (fun _ => 0) 0 0) 1 0) 2 0) 3 0) 4 0) 5 0) 6 0) 7 0) 8 0) 9 0) 10 0) 11 0) 12 0) 13 0) 14 0) 15 0) 16 0) 17 0) 18 0) 19 0) 20 0) 21 0) 22 0)))] := hD_47
  clear hP_45 hD_45 hS_45
  refine lv_iinc (v := 23) (lv' := [(2, .int 23), (3, .int 26), (0, .ref h0), (1, .int 0)]) hx hb dJ7_fill_53178_14 hl_46 (k := 0) rfl (by decide) (by decide) rfl (fun ls_48 hl_48 => ?_)
  clear hl_46
  refine lv_goto (tgt := 5) hx hb dJ7_fill_53178_17 (by decide) ?_
  refine lv_iload_n hx hb dJ7_fill_53178_5 rfl (lv_at hl_48 0 rfl) ?_
  refine lv_iload_n hx hb dJ7_fill_53178_6 rfl (lv_at hl_48 1 rfl) ?_
  refine lv_icmp_ge (tgt := 20) hx hb dJ7_fill_53178_7 (by decide) (fun c_ => absurd c_ (by decide)) (fun _ => ?_)
  refine lv_aload_n hx hb dJ7_fill_53178_10 rfl (lv_at hl_48 2 rfl) ?_
  refine lv_iload_n hx hb dJ7_fill_53178_11 rfl (lv_at hl_48 0 rfl) ?_
  refine lv_iload_n hx hb dJ7_fill_53178_12 rfl (lv_at hl_48 3 rfl) ?_
  refine va_iast hx hb hK hP_47 hD_47 hS_47 0 0 rfl rfl (i := 23) (vpi (by decide)) dJ7_fill_53178_13 (fun H_49 locs_49 hP_49 hD_49 hS_49 => ?_)
  have hP_49 : va_P (dC, dI) vwCl [(h0, .inl (k0, 26, .inl (upd (upd (upd (upd (upd (upd (upd (upd (upd (upd (upd (upd (upd (upd (upd (upd (upd (upd (upd (upd (upd (upd (upd (upd (fun _ => 0) 0 0) 1 0) 2 0) 3 0) 4 0) 5 0) 6 0) 7 0) 8 0) 9 0) 10 0) 11 0) 12 0) 13 0) 14 0) 15 0) 16 0) 17 0) 18 0) 19 0) 20 0) 21 0) 22 0) 23 0)))] H_49 := hP_49
  have hD_49 : va_D A [(h0, .inl (k0, 26, .inl (upd (upd (upd (upd (upd (upd (upd (upd (upd (upd (upd (upd (upd (upd (upd (upd (upd (upd (upd (upd (upd (upd (upd (upd (fun _ => 0) 0 0) 1 0) 2 0) 3 0) 4 0) 5 0) 6 0) 7 0) 8 0) 9 0) 10 0) 11 0) 12 0) 13 0) 14 0) 15 0) 16 0) 17 0) 18 0) 19 0) 20 0) 21 0) 22 0) 23 0)))] := hD_49
  clear hP_47 hD_47 hS_47
  refine lv_iinc (v := 24) (lv' := [(2, .int 24), (3, .int 26), (0, .ref h0), (1, .int 0)]) hx hb dJ7_fill_53178_14 hl_48 (k := 0) rfl (by decide) (by decide) rfl (fun ls_50 hl_50 => ?_)
  clear hl_48
  refine lv_goto (tgt := 5) hx hb dJ7_fill_53178_17 (by decide) ?_
  refine lv_iload_n hx hb dJ7_fill_53178_5 rfl (lv_at hl_50 0 rfl) ?_
  refine lv_iload_n hx hb dJ7_fill_53178_6 rfl (lv_at hl_50 1 rfl) ?_
  refine lv_icmp_ge (tgt := 20) hx hb dJ7_fill_53178_7 (by decide) (fun c_ => absurd c_ (by decide)) (fun _ => ?_)
  refine lv_aload_n hx hb dJ7_fill_53178_10 rfl (lv_at hl_50 2 rfl) ?_
  refine lv_iload_n hx hb dJ7_fill_53178_11 rfl (lv_at hl_50 0 rfl) ?_
  refine lv_iload_n hx hb dJ7_fill_53178_12 rfl (lv_at hl_50 3 rfl) ?_
  refine va_iast hx hb hK hP_49 hD_49 hS_49 0 0 rfl rfl (i := 24) (vpi (by decide)) dJ7_fill_53178_13 (fun H_51 locs_51 hP_51 hD_51 hS_51 => ?_)
  have hP_51 : va_P (dC, dI) vwCl [(h0, .inl (k0, 26, .inl (upd (upd (upd (upd (upd (upd (upd (upd (upd (upd (upd (upd (upd (upd (upd (upd (upd (upd (upd (upd (upd (upd (upd (upd (upd (fun _ => 0) 0 0) 1 0) 2 0) 3 0) 4 0) 5 0) 6 0) 7 0) 8 0) 9 0) 10 0) 11 0) 12 0) 13 0) 14 0) 15 0) 16 0) 17 0) 18 0) 19 0) 20 0) 21 0) 22 0) 23 0) 24 0)))] H_51 := hP_51
  have hD_51 : va_D A [(h0, .inl (k0, 26, .inl (upd (upd (upd (upd (upd (upd (upd (upd (upd (upd (upd (upd (upd (upd (upd (upd (upd (upd (upd (upd (upd (upd (upd (upd (upd (fun _ => 0) 0 0) 1 0) 2 0) 3 0) 4 0) 5 0) 6 0) 7 0) 8 0) 9 0) 10 0) 11 0) 12 0) 13 0) 14 0) 15 0) 16 0) 17 0) 18 0) 19 0) 20 0) 21 0) 22 0) 23 0) 24 0)))] := hD_51
  clear hP_49 hD_49 hS_49
  refine lv_iinc (v := 25) (lv' := [(2, .int 25), (3, .int 26), (0, .ref h0), (1, .int 0)]) hx hb dJ7_fill_53178_14 hl_50 (k := 0) rfl (by decide) (by decide) rfl (fun ls_52 hl_52 => ?_)
  clear hl_50
  refine lv_goto (tgt := 5) hx hb dJ7_fill_53178_17 (by decide) ?_
  refine lv_iload_n hx hb dJ7_fill_53178_5 rfl (lv_at hl_52 0 rfl) ?_
  refine lv_iload_n hx hb dJ7_fill_53178_6 rfl (lv_at hl_52 1 rfl) ?_
  refine lv_icmp_ge (tgt := 20) hx hb dJ7_fill_53178_7 (by decide) (fun c_ => absurd c_ (by decide)) (fun _ => ?_)
  refine lv_aload_n hx hb dJ7_fill_53178_10 rfl (lv_at hl_52 2 rfl) ?_
  refine lv_iload_n hx hb dJ7_fill_53178_11 rfl (lv_at hl_52 0 rfl) ?_
  refine lv_iload_n hx hb dJ7_fill_53178_12 rfl (lv_at hl_52 3 rfl) ?_
  refine va_iast hx hb hK hP_51 hD_51 hS_51 0 0 rfl rfl (i := 25) (vpi (by decide)) dJ7_fill_53178_13 (fun H_53 locs_53 hP_53 hD_53 hS_53 => ?_)
  have hP_53 : va_P (dC, dI) vwCl [(h0, .inl (k0, 26, .inl (upd (upd (upd (upd (upd (upd (upd (upd (upd (upd (upd (upd (upd (upd (upd (upd (upd (upd (upd (upd (upd (upd (upd (upd (upd (upd (fun _ => 0) 0 0) 1 0) 2 0) 3 0) 4 0) 5 0) 6 0) 7 0) 8 0) 9 0) 10 0) 11 0) 12 0) 13 0) 14 0) 15 0) 16 0) 17 0) 18 0) 19 0) 20 0) 21 0) 22 0) 23 0) 24 0) 25 0)))] H_53 := hP_53
  have hD_53 : va_D A [(h0, .inl (k0, 26, .inl (upd (upd (upd (upd (upd (upd (upd (upd (upd (upd (upd (upd (upd (upd (upd (upd (upd (upd (upd (upd (upd (upd (upd (upd (upd (upd (fun _ => 0) 0 0) 1 0) 2 0) 3 0) 4 0) 5 0) 6 0) 7 0) 8 0) 9 0) 10 0) 11 0) 12 0) 13 0) 14 0) 15 0) 16 0) 17 0) 18 0) 19 0) 20 0) 21 0) 22 0) 23 0) 24 0) 25 0)))] := hD_53
  clear hP_51 hD_51 hS_51
  refine lv_iinc (v := 26) (lv' := [(2, .int 26), (3, .int 26), (0, .ref h0), (1, .int 0)]) hx hb dJ7_fill_53178_14 hl_52 (k := 0) rfl (by decide) (by decide) rfl (fun ls_54 hl_54 => ?_)
  clear hl_52
  refine lv_goto (tgt := 5) hx hb dJ7_fill_53178_17 (by decide) ?_
  refine lv_iload_n hx hb dJ7_fill_53178_5 rfl (lv_at hl_54 0 rfl) ?_
  refine lv_iload_n hx hb dJ7_fill_53178_6 rfl (lv_at hl_54 1 rfl) ?_
  refine lv_icmp_ge (tgt := 20) hx hb dJ7_fill_53178_7 (by decide) (fun _ => ?_) (fun c_ => absurd (by decide) c_)
  have hP9 := hP_53.sub (ws' := [(h0, .inl (k0, 26, .inl (upd (upd (upd (upd (upd (upd (upd (upd (upd (upd (upd (upd (upd (upd (upd (upd (upd (upd (upd (upd (upd (upd (upd (upd (upd (upd (fun _ => 0) 0 0) 1 0) 2 0) 3 0) 4 0) 5 0) 6 0) 7 0) 8 0) 9 0) 10 0) 11 0) 12 0) 13 0) 14 0) 15 0) 16 0) 17 0) 18 0) 19 0) 20 0) 21 0) 22 0) 23 0) 24 0) 25 0)))]) [0] rfl
  have hD9 := hD_53.sub (ws' := [(h0, .inl (k0, 26, .inl (upd (upd (upd (upd (upd (upd (upd (upd (upd (upd (upd (upd (upd (upd (upd (upd (upd (upd (upd (upd (upd (upd (upd (upd (upd (upd (fun _ => 0) 0 0) 1 0) 2 0) 3 0) 4 0) 5 0) 6 0) 7 0) 8 0) 9 0) 10 0) 11 0) 12 0) 13 0) 14 0) 15 0) 16 0) 17 0) 18 0) 19 0) 20 0) 21 0) 22 0) 23 0) 24 0) 25 0)))]) [0] (by decide) rfl
  have hK9 := hK.sub (tys' := [(k0, .int)]) [0] rfl
  refine W.widen (k := 0) (n := 0) (by decide) (by decide) ?_
  exact W.vret hx hb hr (fun t9 ht9 hW9 => ⟨⟨0, rfl, rfl, ⟨by rw [ht9]; exact hP9, va_K.moved hW9.alike hK9, hD9⟩⟩, hS_53.F ht9⟩) hS_53.2.2 dJ7_fill_53178_20
set_option maxHeartbeats 4000000 in
set_option maxRecDepth 100000 in
theorem mt_X6_openGroup (l : Launch) (dC : Nat → ClassId) (dI : Nat → Nat → Nat) (h0 h1 h2 h3 h4 h5 h6 h7 h8 h9 h10 h11 h12 h13 h14 h15 h16 h17 h18 h19 h20 h21 h22 : Nat) (k0 : ClassId) (sz : Nat) : Met l yX6_openGroup (WS yX6_openGroup cX6_openGroup 1 (some (.object "PatternWorkshop$Group"))) ({ frames := 0, cells := 0, slots := 0, locals := 0 }) (va_Pc [.ref h0] (fun U => U.heap.size = sz ∧ va_P (dC, dI) vwCl [(h0, .inr (9, [.int 0, .int (-1), .ref h1, .ref h2, .ref h3, .ref h4, .ref h5, .ref h6, .int 0, .ref h7, .int 0, .ref h8, .ref h9, .int 0, .int 0, .ref h10, .ref h11, .ref h12, .int 0])), (h7, .inl (k0, 10, .inr (.inr (.inr (.inr (va_up (va_up (va_up (va_up (va_up (va_up (va_up (va_up (va_up (va_up (fun _ => none) 0 (some h13)) 1 (some h14)) 2 (some h15)) 3 (some h16)) 4 (some h17)) 5 (some h18)) 6 (some h19)) 7 (some h20)) 8 (some h21)) 9 (some h22)))))))] U.heap ∧ va_K (dC, dI) vwCl [(k0, .object "PatternWorkshop$Group")] U ∧ va_D (fun _ => True) [(h0, .inr (9, [.int 0, .int (-1), .ref h1, .ref h2, .ref h3, .ref h4, .ref h5, .ref h6, .int 0, .ref h7, .int 0, .ref h8, .ref h9, .int 0, .int 0, .ref h10, .ref h11, .ref h12, .int 0])), (h7, .inl (k0, 10, .inr (.inr (.inr (.inr (va_up (va_up (va_up (va_up (va_up (va_up (va_up (va_up (va_up (va_up (fun _ => none) 0 (some h13)) 1 (some h14)) 2 (some h15)) 3 (some h16)) 4 (some h17)) 5 (some h18)) 6 (some h19)) 7 (some h20)) 8 (some h21)) 9 (some h22)))))))])) (va_Qq (fun (r : Option Nat) (u : Nat) => (u = 0 ∧ r = some h13)) (fun (_ : Nat) (t : State) => (va_P (dC, dI) vwCl [(h0, .inr (9, [.int 0, .int (-1), .ref h1, .ref h2, .ref h3, .ref h4, .ref h5, .ref h6, .int 0, .ref h7, .int 0, .ref h8, .ref h9, .int 0, .int 0, .ref h10, .ref h11, .ref h12, .int 0])), (h7, .inl (k0, 10, .inr (.inr (.inr (.inr (va_up (va_up (va_up (va_up (va_up (va_up (va_up (va_up (va_up (va_up (fun _ => none) 0 (some h13)) 1 (some h14)) 2 (some h15)) 3 (some h16)) 4 (some h17)) 5 (some h18)) 6 (some h19)) 7 (some h20)) 8 (some h21)) 9 (some h22)))))))] t.heap ∧ va_K (dC, dI) vwCl [(k0, .object "PatternWorkshop$Group")] t ∧ va_D (va_A [(h0, .inr (9, [.int 0, .int (-1), .ref h1, .ref h2, .ref h3, .ref h4, .ref h5, .ref h6, .int 0, .ref h7, .int 0, .ref h8, .ref h9, .int 0, .int 0, .ref h10, .ref h11, .ref h12, .int 0])), (h7, .inl (k0, 10, .inr (.inr (.inr (.inr (va_up (va_up (va_up (va_up (va_up (va_up (va_up (va_up (va_up (va_up (fun _ => none) 0 (some h13)) 1 (some h14)) 2 (some h15)) 3 (some h16)) 4 (some h17)) 5 (some h18)) 6 (some h19)) 7 (some h20)) 8 (some h21)) 9 (some h22)))))))] sz) [(h0, .inr (9, [.int 0, .int (-1), .ref h1, .ref h2, .ref h3, .ref h4, .ref h5, .ref h6, .int 0, .ref h7, .int 0, .ref h8, .ref h9, .int 0, .int 0, .ref h10, .ref h11, .ref h12, .int 0])), (h7, .inl (k0, 10, .inr (.inr (.inr (.inr (va_up (va_up (va_up (va_up (va_up (va_up (va_up (va_up (va_up (va_up (fun _ => none) 0 (some h13)) 1 (some h14)) 2 (some h15)) 3 (some h16)) 4 (some h17)) 5 (some h18)) 6 (some h19)) 7 (some h20)) 8 (some h21)) 9 (some h22)))))))])) (va_A [(h0, .inr (9, [.int 0, .int (-1), .ref h1, .ref h2, .ref h3, .ref h4, .ref h5, .ref h6, .int 0, .ref h7, .int 0, .ref h8, .ref h9, .int 0, .int 0, .ref h10, .ref h11, .ref h12, .int 0])), (h7, .inl (k0, 10, .inr (.inr (.inr (.inr (va_up (va_up (va_up (va_up (va_up (va_up (va_up (va_up (va_up (va_up (fun _ => none) 0 (some h13)) 1 (some h14)) 2 (some h15)) 3 (some h16)) 4 (some h17)) 5 (some h18)) 6 (some h19)) 7 (some h20)) 8 (some h21)) 9 (some h22)))))))] sz)) 0 0 (va_A [(h0, .inr (9, [.int 0, .int (-1), .ref h1, .ref h2, .ref h3, .ref h4, .ref h5, .ref h6, .int 0, .ref h7, .int 0, .ref h8, .ref h9, .int 0, .int 0, .ref h10, .ref h11, .ref h12, .int 0])), (h7, .inl (k0, 10, .inr (.inr (.inr (.inr (va_up (va_up (va_up (va_up (va_up (va_up (va_up (va_up (va_up (va_up (fun _ => none) 0 (some h13)) 1 (some h14)) 2 (some h15)) 3 (some h16)) 4 (some h17)) 5 (some h18)) 6 (some h19)) 7 (some h20)) 8 (some h21)) 9 (some h22)))))))] sz) := by
  refine Met.ofW (cc := cX6_openGroup) (maxL := 1) (ret := (some (.object "PatternWorkshop$Group"))) (by decide) rfl ?_
  intro p e s m args below meth c s₁ B hml hv
  obtain ⟨rfl, hsz, hP, hK, hD0⟩ := hv
  have hx := B.exec
  have hb := B.bytes
  have hr := B.returns
  have hts := atoms_spec (ws := WS yX6_openGroup cX6_openGroup 1 (some (.object "PatternWorkshop$Group"))) B.pre
  have ht : ∀ w ∈ TW, w.before _ s = true := fun w h => hts w (List.mem_cons_of_mem _ h)
  have hown : s.vm.findClass "PatternWorkshop$Reader" = some m.cls := findClass_of_methodNamed B.named
  have hlocks := B.notSynchronized
  subst hsz
  have hD := hD0.self (sz := s.heap.size)
  generalize hAe : va_A [(h0, .inr (9, [.int 0, .int (-1), .ref h1, .ref h2, .ref h3, .ref h4, .ref h5, .ref h6, .int 0, .ref h7, .int 0, .ref h8, .ref h9, .int 0, .int 0, .ref h10, .ref h11, .ref h12, .int 0])), (h7, .inl (k0, 10, .inr (.inr (.inr (.inr (va_up (va_up (va_up (va_up (va_up (va_up (va_up (va_up (va_up (va_up (fun _ => none) 0 (some h13)) 1 (some h14)) 2 (some h15)) 3 (some h16)) 4 (some h17)) 5 (some h18)) 6 (some h19)) 7 (some h20)) 8 (some h21)) 9 (some h22)))))))] s.heap.size = A at hD ⊢
  have hA : ∀ q : Nat, s.heap.size ≤ q → A q := fun q h => by rw [← hAe]; exact Or.inr h
  have hS : va_S A s.heap s.heap [] := va_S.rf
  have hP : va_P (dC, dI) vwCl [(h0, .inr (9, [.int 0, .int (-1), .ref h1, .ref h2, .ref h3, .ref h4, .ref h5, .ref h6, .int 0, .ref h7, .int 0, .ref h8, .ref h9, .int 0, .int 0, .ref h10, .ref h11, .ref h12, .int 0])), (h7, .inl (k0, 10, .inr (.inr (.inr (.inr (va_up (va_up (va_up (va_up (va_up (va_up (va_up (va_up (va_up (va_up (fun _ => none) 0 (some h13)) 1 (some h14)) 2 (some h15)) 3 (some h16)) 4 (some h17)) 5 (some h18)) 6 (some h19)) 7 (some h20)) 8 (some h21)) 9 (some h22)))))))] s.heap := hP
  have hl := lv_entry ([.ref h0]) (n := 1) (Nat.le_of_ble_eq_true rfl)
  rw [lg_entry_eq]
  generalize (lg_sl ([.ref h0]) ++ List.replicate (1 - (lg_sl ([.ref h0])).length) Slot.unset).toArray = ls at hl ⊢
  have hl : lv_has ls 1 [(0, .ref h0)] := hl
  clear hD0
  refine lv_aload_n hx hb dX6_openGroup_0 rfl (lv_at hl 0 rfl) ?_
  refine va_get (D := (dC, dI)) (ci := 9) (v := .ref h7) (C := RX6) (T := TX6) (N := 19) hx hb ht inX6 hown hK hP 0 rfl rfl 9 (by decide) (ht _ tw_446) (fun _ h9 => h9) rfl dX6_openGroup_1 ?_
  refine lv_aload_n hx hb dX6_openGroup_4 rfl (lv_at hl 0 rfl) ?_
  refine va_get (D := (dC, dI)) (ci := 9) (v := .int 0) (C := RX6) (T := TX6) (N := 19) hx hb ht inX6 hown hK hP 0 rfl rfl 10 (by decide) (ht _ tw_447) (fun _ h9 => h9) rfl dX6_openGroup_5 ?_
  refine lv_if_lt (tgt := 30) hx hb dX6_openGroup_8 (by decide) (fun c_ => absurd c_ (by decide)) (fun _ => ?_)
  refine lv_aload_n hx hb dX6_openGroup_11 rfl (lv_at hl 0 rfl) ?_
  refine va_get (D := (dC, dI)) (ci := 9) (v := .int 0) (C := RX6) (T := TX6) (N := 19) hx hb ht inX6 hown hK hP 0 rfl rfl 10 (by decide) (ht _ tw_447) (fun _ h9 => h9) rfl dX6_openGroup_12 ?_
  refine lv_aload_n hx hb dX6_openGroup_15 rfl (lv_at hl 0 rfl) ?_
  refine va_get (D := (dC, dI)) (ci := 9) (v := .ref h7) (C := RX6) (T := TX6) (N := 19) hx hb ht inX6 hown hK hP 0 rfl rfl 9 (by decide) (ht _ tw_446) (fun _ h9 => h9) rfl dX6_openGroup_16 ?_
  refine va_alen hx hb hK hP 1 0 rfl rfl (v := 10) (show Int32.ofNat 10 = 10 by decide) dX6_openGroup_19 ?_
  refine lv_icmp_ge (tgt := 30) hx hb dX6_openGroup_20 (by decide) (fun c_ => absurd c_ (by decide)) (fun _ => ?_)
  refine lv_aload_n hx hb dX6_openGroup_23 rfl (lv_at hl 0 rfl) ?_
  refine va_get (D := (dC, dI)) (ci := 9) (v := .int 0) (C := RX6) (T := TX6) (N := 19) hx hb ht inX6 hown hK hP 0 rfl rfl 10 (by decide) (ht _ tw_447) (fun _ h9 => h9) rfl dX6_openGroup_24 ?_
  refine lv_goto (tgt := 31) hx hb dX6_openGroup_27 (by decide) ?_
  refine va_aldq hx hb hK hP 1 0 rfl rfl (i := 0) (vpi (by decide)) dX6_openGroup_31 ?_
  refine W.eq (g2 := F0 m 32 ls [.ref h13]) rfl ?_
  have hP9 := hP.sub (ws' := [(h0, .inr (9, [.int 0, .int (-1), .ref h1, .ref h2, .ref h3, .ref h4, .ref h5, .ref h6, .int 0, .ref h7, .int 0, .ref h8, .ref h9, .int 0, .int 0, .ref h10, .ref h11, .ref h12, .int 0])), (h7, .inl (k0, 10, .inr (.inr (.inr (.inr (va_up (va_up (va_up (va_up (va_up (va_up (va_up (va_up (va_up (va_up (fun _ => none) 0 (some h13)) 1 (some h14)) 2 (some h15)) 3 (some h16)) 4 (some h17)) 5 (some h18)) 6 (some h19)) 7 (some h20)) 8 (some h21)) 9 (some h22)))))))]) [0, 1] rfl
  have hD9 := hD.sub (ws' := [(h0, .inr (9, [.int 0, .int (-1), .ref h1, .ref h2, .ref h3, .ref h4, .ref h5, .ref h6, .int 0, .ref h7, .int 0, .ref h8, .ref h9, .int 0, .int 0, .ref h10, .ref h11, .ref h12, .int 0])), (h7, .inl (k0, 10, .inr (.inr (.inr (.inr (va_up (va_up (va_up (va_up (va_up (va_up (va_up (va_up (va_up (va_up (fun _ => none) 0 (some h13)) 1 (some h14)) 2 (some h15)) 3 (some h16)) 4 (some h17)) 5 (some h18)) 6 (some h19)) 7 (some h20)) 8 (some h21)) 9 (some h22)))))))]) [0, 1] (by decide) rfl
  have hK9 := hK.sub (tys' := [(k0, .object "PatternWorkshop$Group")]) [0] rfl
  refine W.widen (k := 0) (n := 0) (by decide) (by decide) ?_
  exact W.aret (v := .ref h13) hx hb hr (Or.inl ⟨_, rfl⟩) (Or.inr ⟨_, rfl⟩) (fun t9 ht9 hW9 => ⟨⟨some h13, 0, rfl, ⟨rfl, rfl⟩, ⟨by rw [ht9]; exact hP9, va_K.moved hW9.alike hK9, hD9⟩⟩, hS.F ht9⟩) hS.2.2 dX6_openGroup_32
set_option maxHeartbeats 4000000 in
set_option maxRecDepth 100000 in
theorem mt_X2_beginRow (l : Launch) (dC : Nat → ClassId) (dI : Nat → Nat → Nat) (h0 : Nat) (sz : Nat) : Met l yX2_beginRow (WS yX2_beginRow cX2_beginRow 1 none) ({ frames := 0, cells := 0, slots := 0, locals := 0 }) (va_Pc [.ref h0] (fun U => U.heap.size = sz ∧ va_P (dC, dI) vwCl [(h0, .inr (5, [.int (-1), .int 0, .int 0, .int 0, .int 0, .int 0, .int 0, .int 0, .int (-1), .int (-1), .int 0]))] U.heap ∧ va_K (dC, dI) vwCl [] U ∧ va_D (fun _ => True) [(h0, .inr (5, [.int (-1), .int 0, .int 0, .int 0, .int 0, .int 0, .int 0, .int 0, .int (-1), .int (-1), .int 0]))])) (va_Qv (fun (u : Nat) => (u = 0)) (fun (_ : Nat) (t : State) => (va_P (dC, dI) vwCl [(h0, .inr (5, [.int (-1), .int 0, .int 0, .int (-1), .int 0, .int (-1), .int (-1), .int 0, .int (-1), .int (-1), .int 0]))] t.heap ∧ va_K (dC, dI) vwCl [] t ∧ va_D (va_A [(h0, .inr (5, [.int (-1), .int 0, .int 0, .int 0, .int 0, .int 0, .int 0, .int 0, .int (-1), .int (-1), .int 0]))] sz) [(h0, .inr (5, [.int (-1), .int 0, .int 0, .int (-1), .int 0, .int (-1), .int (-1), .int 0, .int (-1), .int (-1), .int 0]))])) (va_A [(h0, .inr (5, [.int (-1), .int 0, .int 0, .int 0, .int 0, .int 0, .int 0, .int 0, .int (-1), .int (-1), .int 0]))] sz)) 0 0 (va_A [(h0, .inr (5, [.int (-1), .int 0, .int 0, .int 0, .int 0, .int 0, .int 0, .int 0, .int (-1), .int (-1), .int 0]))] sz) := by
  refine Met.ofW (cc := cX2_beginRow) (maxL := 1) (ret := none) (by decide) rfl ?_
  intro p e s m args below meth c s₁ B hml hv
  obtain ⟨rfl, hsz, hP, hK, hD0⟩ := hv
  have hx := B.exec
  have hb := B.bytes
  have hr := B.returns
  have hts := atoms_spec (ws := WS yX2_beginRow cX2_beginRow 1 none) B.pre
  have ht : ∀ w ∈ TW, w.before _ s = true := fun w h => hts w (List.mem_cons_of_mem _ h)
  have hown : s.vm.findClass "PatternWorkshop$Group" = some m.cls := findClass_of_methodNamed B.named
  have hlocks := B.notSynchronized
  subst hsz
  have hD := hD0.self (sz := s.heap.size)
  generalize hAe : va_A [(h0, .inr (5, [.int (-1), .int 0, .int 0, .int 0, .int 0, .int 0, .int 0, .int 0, .int (-1), .int (-1), .int 0]))] s.heap.size = A at hD ⊢
  have hA : ∀ q : Nat, s.heap.size ≤ q → A q := fun q h => by rw [← hAe]; exact Or.inr h
  have hS : va_S A s.heap s.heap [] := va_S.rf
  have hP : va_P (dC, dI) vwCl [(h0, .inr (5, [.int (-1), .int 0, .int 0, .int 0, .int 0, .int 0, .int 0, .int 0, .int (-1), .int (-1), .int 0]))] s.heap := hP
  have hl := lv_entry ([.ref h0]) (n := 1) (Nat.le_of_ble_eq_true rfl)
  rw [lg_entry_eq]
  generalize (lg_sl ([.ref h0]) ++ List.replicate (1 - (lg_sl ([.ref h0])).length) Slot.unset).toArray = ls at hl ⊢
  have hl : lv_has ls 1 [(0, .ref h0)] := hl
  clear hD0
  refine lv_aload_n hx hb dX2_beginRow_0 rfl (lv_at hl 0 rfl) ?_
  refine lv_iconst (v := (-1)) hx hb dX2_beginRow_1 (by decide) ?_
  refine va_put (D := (dC, dI)) (ci := 5) (v := .int (-1)) (ty := .int) (C := RX2) (T := TX2) (N := 11) hx hb ht inX2 tyX2 tyX2_ok nmX2 hown hK hP hD hS 0 rfl rfl 3 (by decide) (ht _ tw_396) (fun _ h9 => h9) rfl (by decide +kernel) rfl rfl (Nat.le_of_ble_eq_true rfl) dX2_beginRow_2 (fun H_1 locs_1 hP_1 hD_1 hS_1 => ?_)
  have hP_1 : va_P (dC, dI) vwCl [(h0, .inr (5, [.int (-1), .int 0, .int 0, .int (-1), .int 0, .int 0, .int 0, .int 0, .int (-1), .int (-1), .int 0]))] H_1 := hP_1
  have hD_1 : va_D A [(h0, .inr (5, [.int (-1), .int 0, .int 0, .int (-1), .int 0, .int 0, .int 0, .int 0, .int (-1), .int (-1), .int 0]))] := hD_1
  clear hP hD hS
  refine lv_aload_n hx hb dX2_beginRow_5 rfl (lv_at hl 0 rfl) ?_
  refine lv_iconst (v := 0) hx hb dX2_beginRow_6 (by decide) ?_
  refine va_put (D := (dC, dI)) (ci := 5) (v := .int 0) (ty := .boolean) (C := RX2) (T := TX2) (N := 11) hx hb ht inX2 tyX2 tyX2_ok nmX2 hown hK hP_1 hD_1 hS_1 0 rfl rfl 4 (by decide) (ht _ tw_398) (fun _ h9 => h9) rfl (by decide +kernel) rfl rfl (Nat.le_of_ble_eq_true rfl) dX2_beginRow_7 (fun H_2 locs_2 hP_2 hD_2 hS_2 => ?_)
  have hP_2 : va_P (dC, dI) vwCl [(h0, .inr (5, [.int (-1), .int 0, .int 0, .int (-1), .int 0, .int 0, .int 0, .int 0, .int (-1), .int (-1), .int 0]))] H_2 := hP_2
  have hD_2 : va_D A [(h0, .inr (5, [.int (-1), .int 0, .int 0, .int (-1), .int 0, .int 0, .int 0, .int 0, .int (-1), .int (-1), .int 0]))] := hD_2
  clear hP_1 hD_1 hS_1
  refine lv_aload_n hx hb dX2_beginRow_10 rfl (lv_at hl 0 rfl) ?_
  refine lv_iconst (v := (-1)) hx hb dX2_beginRow_11 (by decide) ?_
  refine va_put (D := (dC, dI)) (ci := 5) (v := .int (-1)) (ty := .int) (C := RX2) (T := TX2) (N := 11) hx hb ht inX2 tyX2 tyX2_ok nmX2 hown hK hP_2 hD_2 hS_2 0 rfl rfl 5 (by decide) (ht _ tw_400) (fun _ h9 => h9) rfl (by decide +kernel) rfl rfl (Nat.le_of_ble_eq_true rfl) dX2_beginRow_12 (fun H_3 locs_3 hP_3 hD_3 hS_3 => ?_)
  have hP_3 : va_P (dC, dI) vwCl [(h0, .inr (5, [.int (-1), .int 0, .int 0, .int (-1), .int 0, .int (-1), .int 0, .int 0, .int (-1), .int (-1), .int 0]))] H_3 := hP_3
  have hD_3 : va_D A [(h0, .inr (5, [.int (-1), .int 0, .int 0, .int (-1), .int 0, .int (-1), .int 0, .int 0, .int (-1), .int (-1), .int 0]))] := hD_3
  clear hP_2 hD_2 hS_2
  refine lv_aload_n hx hb dX2_beginRow_15 rfl (lv_at hl 0 rfl) ?_
  refine lv_iconst (v := (-1)) hx hb dX2_beginRow_16 (by decide) ?_
  refine va_put (D := (dC, dI)) (ci := 5) (v := .int (-1)) (ty := .int) (C := RX2) (T := TX2) (N := 11) hx hb ht inX2 tyX2 tyX2_ok nmX2 hown hK hP_3 hD_3 hS_3 0 rfl rfl 6 (by decide) (ht _ tw_402) (fun _ h9 => h9) rfl (by decide +kernel) rfl rfl (Nat.le_of_ble_eq_true rfl) dX2_beginRow_17 (fun H_4 locs_4 hP_4 hD_4 hS_4 => ?_)
  have hP_4 : va_P (dC, dI) vwCl [(h0, .inr (5, [.int (-1), .int 0, .int 0, .int (-1), .int 0, .int (-1), .int (-1), .int 0, .int (-1), .int (-1), .int 0]))] H_4 := hP_4
  have hD_4 : va_D A [(h0, .inr (5, [.int (-1), .int 0, .int 0, .int (-1), .int 0, .int (-1), .int (-1), .int 0, .int (-1), .int (-1), .int 0]))] := hD_4
  clear hP_3 hD_3 hS_3
  refine lv_aload_n hx hb dX2_beginRow_20 rfl (lv_at hl 0 rfl) ?_
  refine lv_iconst (v := 0) hx hb dX2_beginRow_21 (by decide) ?_
  refine va_put (D := (dC, dI)) (ci := 5) (v := .int 0) (ty := .int) (C := RX2) (T := TX2) (N := 11) hx hb ht inX2 tyX2 tyX2_ok nmX2 hown hK hP_4 hD_4 hS_4 0 rfl rfl 7 (by decide) (ht _ tw_404) (fun _ h9 => h9) rfl (by decide +kernel) rfl rfl (Nat.le_of_ble_eq_true rfl) dX2_beginRow_22 (fun H_5 locs_5 hP_5 hD_5 hS_5 => ?_)
  have hP_5 : va_P (dC, dI) vwCl [(h0, .inr (5, [.int (-1), .int 0, .int 0, .int (-1), .int 0, .int (-1), .int (-1), .int 0, .int (-1), .int (-1), .int 0]))] H_5 := hP_5
  have hD_5 : va_D A [(h0, .inr (5, [.int (-1), .int 0, .int 0, .int (-1), .int 0, .int (-1), .int (-1), .int 0, .int (-1), .int (-1), .int 0]))] := hD_5
  clear hP_4 hD_4 hS_4
  have hP9 := hP_5.sub (ws' := [(h0, .inr (5, [.int (-1), .int 0, .int 0, .int (-1), .int 0, .int (-1), .int (-1), .int 0, .int (-1), .int (-1), .int 0]))]) [0] rfl
  have hD9 := hD_5.sub (ws' := [(h0, .inr (5, [.int (-1), .int 0, .int 0, .int (-1), .int 0, .int (-1), .int (-1), .int 0, .int (-1), .int (-1), .int 0]))]) [0] (by decide) rfl
  have hK9 := hK.sub (tys' := []) [] rfl
  refine W.widen (k := 0) (n := 0) (by decide) (by decide) ?_
  exact W.vret hx hb hr (fun t9 ht9 hW9 => ⟨⟨0, rfl, rfl, ⟨by rw [ht9]; exact hP9, va_K.moved hW9.alike hK9, hD9⟩⟩, hS_5.F ht9⟩) hS_5.2.2 dX2_beginRow_25
