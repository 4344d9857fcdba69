set_option maxHeartbeats 4000000 in
set_option maxRecDepth 100000 in
theorem mt_X11_endSearchOver (l : Launch) (dC : Nat → ClassId) (dI : Nat → Nat → Nat) (h0 h1 h2 h3 h4 h5 h6 h7 h8 h9 h10 h11 h12 : Nat) (sz : Nat) : Met l yX11_endSearchOver (WS yX11_endSearchOver cX11_endSearchOver 2 none) ({ frames := 0, cells := 0, slots := 0, locals := 0 }) (va_Pc [.ref h0, .int 0] (fun U => U.heap.size = sz ∧ va_P (dC, dI) vwCl [(h0, .inr (14, [.ref h1, .ref h2, .ref h3, .ref h4, .int 0, .ref h5, .ref h6, .ref h7, .ref h8, .ref h9, .ref h10, .ref h11, .ref h12, .int (-1), .int 0, .int 0, .int (-1), .int (-1)]))] U.heap ∧ va_K (dC, dI) vwCl [] U ∧ va_D (fun _ => True) [(h0, .inr (14, [.ref h1, .ref h2, .ref h3, .ref h4, .int 0, .ref h5, .ref h6, .ref h7, .ref h8, .ref h9, .ref h10, .ref h11, .ref h12, .int (-1), .int 0, .int 0, .int (-1), .int (-1)]))])) (va_Qv (fun (u : Nat) => (u = 0)) (fun (_ : Nat) (t : State) => (va_P (dC, dI) vwCl [(h0, .inr (14, [.ref h1, .ref h2, .ref h3, .ref h4, .int 0, .ref h5, .ref h6, .ref h7, .ref h8, .ref h9, .ref h10, .ref h11, .ref h12, .int (-1), .int 0, .int 0, .int (-1), .int (-1)]))] t.heap ∧ va_K (dC, dI) vwCl [] t ∧ va_D (va_A [(h0, .inr (14, [.ref h1, .ref h2, .ref h3, .ref h4, .int 0, .ref h5, .ref h6, .ref h7, .ref h8, .ref h9, .ref h10, .ref h11, .ref h12, .int (-1), .int 0, .int 0, .int (-1), .int (-1)]))] sz) [(h0, .inr (14, [.ref h1, .ref h2, .ref h3, .ref h4, .int 0, .ref h5, .ref h6, .ref h7, .ref h8, .ref h9, .ref h10, .ref h11, .ref h12, .int (-1), .int 0, .int 0, .int (-1), .int (-1)]))])) (va_A [(h0, .inr (14, [.ref h1, .ref h2, .ref h3, .ref h4, .int 0, .ref h5, .ref h6, .ref h7, .ref h8, .ref h9, .ref h10, .ref h11, .ref h12, .int (-1), .int 0, .int 0, .int (-1), .int (-1)]))] sz)) 0 0 (va_A [(h0, .inr (14, [.ref h1, .ref h2, .ref h3, .ref h4, .int 0, .ref h5, .ref h6, .ref h7, .ref h8, .ref h9, .ref h10, .ref h11, .ref h12, .int (-1), .int 0, .int 0, .int (-1), .int (-1)]))] sz) := by
  refine Met.ofW (cc := cX11_endSearchOver) (maxL := 2) (ret := none) (by decide) rfl ?_
  intro p e s m args below meth c s₁ B hml hv
  obtain ⟨rfl, hsz, hP, hK, hD0⟩ := hv
  have hx := B.exec
  have hb := B.bytes
  have hr := B.returns
  have hts := atoms_spec (ws := WS yX11_endSearchOver cX11_endSearchOver 2 none) B.pre
  have ht : ∀ w ∈ TW, w.before _ s = true := fun w h => hts w (List.mem_cons_of_mem _ h)
  have hown : s.vm.findClass "PatternWorkshop" = some m.cls := findClass_of_methodNamed B.named
  have hlocks := B.notSynchronized
  subst hsz
  have hD := hD0.self (sz := s.heap.size)
  generalize hAe : va_A [(h0, .inr (14, [.ref h1, .ref h2, .ref h3, .ref h4, .int 0, .ref h5, .ref h6, .ref h7, .ref h8, .ref h9, .ref h10, .ref h11, .ref h12, .int (-1), .int 0, .int 0, .int (-1), .int (-1)]))] s.heap.size = A at hD ⊢
  have hA : ∀ q : Nat, s.heap.size ≤ q → A q := fun q h => by rw [← hAe]; exact Or.inr h
  have hS : va_S A s.heap s.heap [] := va_S.rf
  have hP : va_P (dC, dI) vwCl [(h0, .inr (14, [.ref h1, .ref h2, .ref h3, .ref h4, .int 0, .ref h5, .ref h6, .ref h7, .ref h8, .ref h9, .ref h10, .ref h11, .ref h12, .int (-1), .int 0, .int 0, .int (-1), .int (-1)]))] s.heap := hP
  have hl := lv_entry ([.ref h0, .int 0]) (n := 2) (Nat.le_of_ble_eq_true rfl)
  rw [lg_entry_eq]
  generalize (lg_sl ([.ref h0, .int 0]) ++ List.replicate (2 - (lg_sl ([.ref h0, .int 0])).length) Slot.unset).toArray = ls at hl ⊢
  have hl : lv_has ls 2 [(0, .ref h0), (1, .int 0)] := hl
  clear hD0
  refine lv_aload_n hx hb dX11_endSearchOver_0 rfl (lv_at hl 0 rfl) ?_
  refine va_get (D := (dC, dI)) (ci := 14) (v := .int (-1)) (C := RX11) (T := TX11) (N := 18) hx hb ht inX11 hown hK hP 0 rfl rfl 17 (by decide) (ht _ tw_817) (fun _ h9 => h9) rfl dX11_endSearchOver_1 ?_
  refine lv_iload_n hx hb dX11_endSearchOver_4 rfl (lv_at hl 1 rfl) ?_
  refine lv_icmp_ne (tgt := 12) hx hb dX11_endSearchOver_5 (by decide) (fun _ => ?_) (fun c_ => absurd c_ (by decide))
  have hP9 := hP.sub (ws' := [(h0, .inr (14, [.ref h1, .ref h2, .ref h3, .ref h4, .int 0, .ref h5, .ref h6, .ref h7, .ref h8, .ref h9, .ref h10, .ref h11, .ref h12, .int (-1), .int 0, .int 0, .int (-1), .int (-1)]))]) [0] rfl
  have hD9 := hD.sub (ws' := [(h0, .inr (14, [.ref h1, .ref h2, .ref h3, .ref h4, .int 0, .ref h5, .ref h6, .ref h7, .ref h8, .ref h9, .ref h10, .ref h11, .ref h12, .int (-1), .int 0, .int 0, .int (-1), .int (-1)]))]) [0] (by decide) rfl
  have hK9 := hK.sub (tys' := []) [] rfl
  refine W.widen (k := 0) (n := 0) (by decide) (by decide) ?_
  exact W.vret hx hb hr (fun t9 ht9 hW9 => ⟨⟨0, rfl, rfl, ⟨by rw [ht9]; exact hP9, va_K.moved hW9.alike hK9, hD9⟩⟩, hS.F ht9⟩) hS.2.2 dX11_endSearchOver_12
set_option maxHeartbeats 4000000 in
set_option maxRecDepth 100000 in
theorem mt_X7_add_v9 (l : Launch) (dC : Nat → ClassId) (dI : Nat → Nat → Nat) (h0 h1 : Nat) (k0 : ClassId) (p0 : Int32) (sz : Nat) : Met l yX7_add (WS yX7_add cX7_add 2 none) ({ frames := 0, cells := 0, slots := 0, locals := 0 }) (va_Pc [.ref h0, .int p0] (fun U => U.heap.size = sz ∧ va_P (dC, dI) vwCl [(h0, .inr (10, [.ref h1, .int 0, .int 0, .int 0])), (h1, .inl (k0, 100, .inl (fun _ => 0)))] U.heap ∧ va_K (dC, dI) vwCl [(k0, .int)] U ∧ va_D (fun _ => True) [(h0, .inr (10, [.ref h1, .int 0, .int 0, .int 0])), (h1, .inl (k0, 100, .inl (fun _ => 0)))])) (va_Qv (fun (u : Nat) => (u = 0)) (fun (_ : Nat) (t : State) => (va_P (dC, dI) vwCl [(h0, .inr (10, [.ref h1, .int 1, .int 0, .int 0])), (h1, .inl (k0, 100, .inl (upd (fun _ => 0) 0 p0)))] t.heap ∧ va_K (dC, dI) vwCl [(k0, .int)] t ∧ va_D (va_A [(h0, .inr (10, [.ref h1, .int 0, .int 0, .int 0])), (h1, .inl (k0, 100, .inl (fun _ => 0)))] sz) [(h0, .inr (10, [.ref h1, .int 1, .int 0, .int 0])), (h1, .inl (k0, 100, .inl (upd (fun _ => 0) 0 p0)))])) (va_A [(h0, .inr (10, [.ref h1, .int 0, .int 0, .int 0])), (h1, .inl (k0, 100, .inl (fun _ => 0)))] sz)) 0 0 (va_A [(h0, .inr (10, [.ref h1, .int 0, .int 0, .int 0])), (h1, .inl (k0, 100, .inl (fun _ => 0)))] sz) := by
  refine Met.ofW (cc := cX7_add) (maxL := 2) (ret := none) (by decide) rfl ?_
  intro p e s m args below meth c s₁ B hml hv
  obtain ⟨rfl, hsz, hP, hK, hD0⟩ := hv
  have hx := B.exec
  have hb := B.bytes
  have hr := B.returns
  have hts := atoms_spec (ws := WS yX7_add cX7_add 2 none) B.pre
  have ht : ∀ w ∈ TW, w.before _ s = true := fun w h => hts w (List.mem_cons_of_mem _ h)
  have hown : s.vm.findClass "PatternWorkshop$Row" = some m.cls := findClass_of_methodNamed B.named
  have hlocks := B.notSynchronized
  subst hsz
  have hD := hD0.self (sz := s.heap.size)
  generalize hAe : va_A [(h0, .inr (10, [.ref h1, .int 0, .int 0, .int 0])), (h1, .inl (k0, 100, .inl (fun _ => 0)))] s.heap.size = A at hD ⊢
  have hA : ∀ q : Nat, s.heap.size ≤ q → A q := fun q h => by rw [← hAe]; exact Or.inr h
  have hS : va_S A s.heap s.heap [] := va_S.rf
  have hP : va_P (dC, dI) vwCl [(h0, .inr (10, [.ref h1, .int 0, .int 0, .int 0])), (h1, .inl (k0, 100, .inl (fun _ => 0)))] s.heap := hP
  have hl := lv_entry ([.ref h0, .int p0]) (n := 2) (Nat.le_of_ble_eq_true rfl)
  rw [lg_entry_eq]
  generalize (lg_sl ([.ref h0, .int p0]) ++ List.replicate (2 - (lg_sl ([.ref h0, .int p0])).length) Slot.unset).toArray = ls at hl ⊢
  have hl : lv_has ls 2 [(0, .ref h0), (1, .int p0)] := hl
  clear hD0
  refine lv_aload_n hx hb dX7_add_0 rfl (lv_at hl 0 rfl) ?_
  refine va_get (D := (dC, dI)) (ci := 10) (v := .int 0) (C := RX7) (T := TX7) (N := 4) hx hb ht inX7 hown hK hP 0 rfl rfl 1 (by decide) (ht _ tw_277) (fun _ h9 => h9) rfl dX7_add_1 ?_
  refine lv_if_lt (tgt := 42) hx hb dX7_add_4 (by decide) (fun c_ => absurd c_ (by decide)) (fun _ => ?_)
  refine lv_aload_n hx hb dX7_add_7 rfl (lv_at hl 0 rfl) ?_
  refine va_get (D := (dC, dI)) (ci := 10) (v := .int 0) (C := RX7) (T := TX7) (N := 4) hx hb ht inX7 hown hK hP 0 rfl rfl 1 (by decide) (ht _ tw_277) (fun _ h9 => h9) rfl dX7_add_8 ?_
  refine lv_aload_n hx hb dX7_add_11 rfl (lv_at hl 0 rfl) ?_
  refine va_get (D := (dC, dI)) (ci := 10) (v := .ref h1) (C := RX7) (T := TX7) (N := 4) hx hb ht inX7 hown hK hP 0 rfl rfl 0 (by decide) (ht _ tw_276) (fun _ h9 => h9) rfl dX7_add_12 ?_
  refine va_alen hx hb hK hP 1 0 rfl rfl (v := 100) (show Int32.ofNat 100 = 100 by decide) dX7_add_15 ?_
  refine lv_icmp_ge (tgt := 42) hx hb dX7_add_16 (by decide) (fun c_ => absurd c_ (by decide)) (fun _ => ?_)
  refine lv_aload_n hx hb dX7_add_19 rfl (lv_at hl 0 rfl) ?_
  refine va_get (D := (dC, dI)) (ci := 10) (v := .ref h1) (C := RX7) (T := TX7) (N := 4) hx hb ht inX7 hown hK hP 0 rfl rfl 0 (by decide) (ht _ tw_276) (fun _ h9 => h9) rfl dX7_add_20 ?_
  refine lv_aload_n hx hb dX7_add_23 rfl (lv_at hl 0 rfl) ?_
  refine va_get (D := (dC, dI)) (ci := 10) (v := .int 0) (C := RX7) (T := TX7) (N := 4) hx hb ht inX7 hown hK hP 0 rfl rfl 1 (by decide) (ht _ tw_277) (fun _ h9 => h9) rfl dX7_add_24 ?_
  refine lv_iload_n hx hb dX7_add_27 rfl (lv_at hl 1 rfl) ?_
  refine va_iast hx hb hK hP hD hS 1 0 rfl rfl (i := 0) (vpi (by decide)) dX7_add_28 (fun H_1 locs_1 hP_1 hD_1 hS_1 => ?_)
  have hP_1 : va_P (dC, dI) vwCl [(h0, .inr (10, [.ref h1, .int 0, .int 0, .int 0])), (h1, .inl (k0, 100, .inl (upd (fun _ => 0) 0 p0)))] H_1 := hP_1
  have hD_1 : va_D A [(h0, .inr (10, [.ref h1, .int 0, .int 0, .int 0])), (h1, .inl (k0, 100, .inl (upd (fun _ => 0) 0 p0)))] := hD_1
  clear hP hD hS
  refine lv_aload_n hx hb dX7_add_29 rfl (lv_at hl 0 rfl) ?_
  refine lv_dup hx hb dX7_add_30 rfl ?_
  refine va_get (D := (dC, dI)) (ci := 10) (v := .int 0) (C := RX7) (T := TX7) (N := 4) hx hb ht inX7 hown hK hP_1 0 rfl rfl 1 (by decide) (ht _ tw_277) (fun _ h9 => h9) rfl dX7_add_31 ?_
  refine lv_iconst (v := 1) hx hb dX7_add_34 (by decide) ?_
  refine lv_iadd hx hb dX7_add_35 ?_
  refine lv_topi (fun x_2 ex_2 => ?_)
  obtain rfl : x_2 = 1 := ex_2.trans (by decide)
  refine va_put (D := (dC, dI)) (ci := 10) (v := .int 1) (ty := .int) (C := RX7) (T := TX7) (N := 4) hx hb ht inX7 tyX7 tyX7_ok nmX7 hown hK hP_1 hD_1 hS_1 0 rfl rfl 1 (by decide) (ht _ tw_277) (fun _ h9 => h9) rfl (by decide +kernel) rfl rfl (Nat.le_of_ble_eq_true rfl) dX7_add_36 (fun H_3 locs_3 hP_3 hD_3 hS_3 => ?_)
  have hP_3 : va_P (dC, dI) vwCl [(h0, .inr (10, [.ref h1, .int 1, .int 0, .int 0])), (h1, .inl (k0, 100, .inl (upd (fun _ => 0) 0 p0)))] H_3 := hP_3
  have hD_3 : va_D A [(h0, .inr (10, [.ref h1, .int 1, .int 0, .int 0])), (h1, .inl (k0, 100, .inl (upd (fun _ => 0) 0 p0)))] := hD_3
  clear hP_1 hD_1 hS_1
  refine lv_goto (tgt := 47) hx hb dX7_add_39 (by decide) ?_
  have hP9 := hP_3.sub (ws' := [(h0, .inr (10, [.ref h1, .int 1, .int 0, .int 0])), (h1, .inl (k0, 100, .inl (upd (fun _ => 0) 0 p0)))]) [0, 1] rfl
  have hD9 := hD_3.sub (ws' := [(h0, .inr (10, [.ref h1, .int 1, .int 0, .int 0])), (h1, .inl (k0, 100, .inl (upd (fun _ => 0) 0 p0)))]) [0, 1] (by decide) rfl
  have hK9 := hK.sub (tys' := [(k0, .int)]) [0] rfl
  refine W.widen (k := 0) (n := 0) (by decide) (by decide) ?_
  exact W.vret hx hb hr (fun t9 ht9 hW9 => ⟨⟨0, rfl, rfl, ⟨by rw [ht9]; exact hP9, va_K.moved hW9.alike hK9, hD9⟩⟩, hS_3.F ht9⟩) hS_3.2.2 dX7_add_47
set_option maxHeartbeats 4000000 in
set_option maxRecDepth 100000 in
theorem mt_X7_add_v10 (l : Launch) (dC : Nat → ClassId) (dI : Nat → Nat → Nat) (h0 h1 : Nat) (k0 : ClassId) (p0 p1 : Int32) (sz : Nat) : Met l yX7_add (WS yX7_add cX7_add 2 none) ({ frames := 0, cells := 0, slots := 0, locals := 0 }) (va_Pc [.ref h0, .int p0] (fun U => U.heap.size = sz ∧ va_P (dC, dI) vwCl [(h0, .inr (10, [.ref h1, .int 1, .int 0, .int 0])), (h1, .inl (k0, 100, .inl (upd (fun _ => 0) 0 p1)))] U.heap ∧ va_K (dC, dI) vwCl [(k0, .int)] U ∧ va_D (fun _ => True) [(h0, .inr (10, [.ref h1, .int 1, .int 0, .int 0])), (h1, .inl (k0, 100, .inl (upd (fun _ => 0) 0 p1)))])) (va_Qv (fun (u : Nat) => (u = 0)) (fun (_ : Nat) (t : State) => (va_P (dC, dI) vwCl [(h0, .inr (10, [.ref h1, .int 2, .int 0, .int 0])), (h1, .inl (k0, 100, .inl (upd (upd (fun _ => 0) 0 p1) 1 p0)))] t.heap ∧ va_K (dC, dI) vwCl [(k0, .int)] t ∧ va_D (va_A [(h0, .inr (10, [.ref h1, .int 1, .int 0, .int 0])), (h1, .inl (k0, 100, .inl (upd (fun _ => 0) 0 p1)))] sz) [(h0, .inr (10, [.ref h1, .int 2, .int 0, .int 0])), (h1, .inl (k0, 100, .inl (upd (upd (fun _ => 0) 0 p1) 1 p0)))])) (va_A [(h0, .inr (10, [.ref h1, .int 1, .int 0, .int 0])), (h1, .inl (k0, 100, .inl (upd (fun _ => 0) 0 p1)))] sz)) 0 0 (va_A [(h0, .inr (10, [.ref h1, .int 1, .int 0, .int 0])), (h1, .inl (k0, 100, .inl (upd (fun _ => 0) 0 p1)))] sz) := by
  refine Met.ofW (cc := cX7_add) (maxL := 2) (ret := none) (by decide) rfl ?_
  intro p e s m args below meth c s₁ B hml hv
  obtain ⟨rfl, hsz, hP, hK, hD0⟩ := hv
  have hx := B.exec
  have hb := B.bytes
  have hr := B.returns
  have hts := atoms_spec (ws := WS yX7_add cX7_add 2 none) B.pre
  have ht : ∀ w ∈ TW, w.before _ s = true := fun w h => hts w (List.mem_cons_of_mem _ h)
  have hown : s.vm.findClass "PatternWorkshop$Row" = some m.cls := findClass_of_methodNamed B.named
  have hlocks := B.notSynchronized
  subst hsz
  have hD := hD0.self (sz := s.heap.size)
  generalize hAe : va_A [(h0, .inr (10, [.ref h1, .int 1, .int 0, .int 0])), (h1, .inl (k0, 100, .inl (upd (fun _ => 0) 0 p1)))] s.heap.size = A at hD ⊢
  have hA : ∀ q : Nat, s.heap.size ≤ q → A q := fun q h => by rw [← hAe]; exact Or.inr h
  have hS : va_S A s.heap s.heap [] := va_S.rf
  have hP : va_P (dC, dI) vwCl [(h0, .inr (10, [.ref h1, .int 1, .int 0, .int 0])), (h1, .inl (k0, 100, .inl (upd (fun _ => 0) 0 p1)))] s.heap := hP
  have hl := lv_entry ([.ref h0, .int p0]) (n := 2) (Nat.le_of_ble_eq_true rfl)
  rw [lg_entry_eq]
  generalize (lg_sl ([.ref h0, .int p0]) ++ List.replicate (2 - (lg_sl ([.ref h0, .int p0])).length) Slot.unset).toArray = ls at hl ⊢
  have hl : lv_has ls 2 [(0, .ref h0), (1, .int p0)] := hl
  clear hD0
  refine lv_aload_n hx hb dX7_add_0 rfl (lv_at hl 0 rfl) ?_
  refine va_get (D := (dC, dI)) (ci := 10) (v := .int 1) (C := RX7) (T := TX7) (N := 4) hx hb ht inX7 hown hK hP 0 rfl rfl 1 (by decide) (ht _ tw_277) (fun _ h9 => h9) rfl dX7_add_1 ?_
  refine lv_if_lt (tgt := 42) hx hb dX7_add_4 (by decide) (fun c_ => absurd c_ (by decide)) (fun _ => ?_)
  refine lv_aload_n hx hb dX7_add_7 rfl (lv_at hl 0 rfl) ?_
  refine va_get (D := (dC, dI)) (ci := 10) (v := .int 1) (C := RX7) (T := TX7) (N := 4) hx hb ht inX7 hown hK hP 0 rfl rfl 1 (by decide) (ht _ tw_277) (fun _ h9 => h9) rfl dX7_add_8 ?_
  refine lv_aload_n hx hb dX7_add_11 rfl (lv_at hl 0 rfl) ?_
  refine va_get (D := (dC, dI)) (ci := 10) (v := .ref h1) (C := RX7) (T := TX7) (N := 4) hx hb ht inX7 hown hK hP 0 rfl rfl 0 (by decide) (ht _ tw_276) (fun _ h9 => h9) rfl dX7_add_12 ?_
  refine va_alen hx hb hK hP 1 0 rfl rfl (v := 100) (show Int32.ofNat 100 = 100 by decide) dX7_add_15 ?_
  refine lv_icmp_ge (tgt := 42) hx hb dX7_add_16 (by decide) (fun c_ => absurd c_ (by decide)) (fun _ => ?_)
  refine lv_aload_n hx hb dX7_add_19 rfl (lv_at hl 0 rfl) ?_
  refine va_get (D := (dC, dI)) (ci := 10) (v := .ref h1) (C := RX7) (T := TX7) (N := 4) hx hb ht inX7 hown hK hP 0 rfl rfl 0 (by decide) (ht _ tw_276) (fun _ h9 => h9) rfl dX7_add_20 ?_
  refine lv_aload_n hx hb dX7_add_23 rfl (lv_at hl 0 rfl) ?_
  refine va_get (D := (dC, dI)) (ci := 10) (v := .int 1) (C := RX7) (T := TX7) (N := 4) hx hb ht inX7 hown hK hP 0 rfl rfl 1 (by decide) (ht _ tw_277) (fun _ h9 => h9) rfl dX7_add_24 ?_
  refine lv_iload_n hx hb dX7_add_27 rfl (lv_at hl 1 rfl) ?_
  refine va_iast hx hb hK hP hD hS 1 0 rfl rfl (i := 1) (vpi (by decide)) dX7_add_28 (fun H_1 locs_1 hP_1 hD_1 hS_1 => ?_)
  have hP_1 : va_P (dC, dI) vwCl [(h0, .inr (10, [.ref h1, .int 1, .int 0, .int 0])), (h1, .inl (k0, 100, .inl (upd (upd (fun _ => 0) 0 p1) 1 p0)))] H_1 := hP_1
  have hD_1 : va_D A [(h0, .inr (10, [.ref h1, .int 1, .int 0, .int 0])), (h1, .inl (k0, 100, .inl (upd (upd (fun _ => 0) 0 p1) 1 p0)))] := hD_1
  clear hP hD hS
  refine lv_aload_n hx hb dX7_add_29 rfl (lv_at hl 0 rfl) ?_
  refine lv_dup hx hb dX7_add_30 rfl ?_
  refine va_get (D := (dC, dI)) (ci := 10) (v := .int 1) (C := RX7) (T := TX7) (N := 4) hx hb ht inX7 hown hK hP_1 0 rfl rfl 1 (by decide) (ht _ tw_277) (fun _ h9 => h9) rfl dX7_add_31 ?_
  refine lv_iconst (v := 1) hx hb dX7_add_34 (by decide) ?_
  refine lv_iadd hx hb dX7_add_35 ?_
  refine lv_topi (fun x_2 ex_2 => ?_)
  obtain rfl : x_2 = 2 := ex_2.trans (by decide)
  refine va_put (D := (dC, dI)) (ci := 10) (v := .int 2) (ty := .int) (C := RX7) (T := TX7) (N := 4) hx hb ht inX7 tyX7 tyX7_ok nmX7 hown hK hP_1 hD_1 hS_1 0 rfl rfl 1 (by decide) (ht _ tw_277) (fun _ h9 => h9) rfl (by decide +kernel) rfl rfl (Nat.le_of_ble_eq_true rfl) dX7_add_36 (fun H_3 locs_3 hP_3 hD_3 hS_3 => ?_)
  have hP_3 : va_P (dC, dI) vwCl [(h0, .inr (10, [.ref h1, .int 2, .int 0, .int 0])), (h1, .inl (k0, 100, .inl (upd (upd (fun _ => 0) 0 p1) 1 p0)))] H_3 := hP_3
  have hD_3 : va_D A [(h0, .inr (10, [.ref h1, .int 2, .int 0, .int 0])), (h1, .inl (k0, 100, .inl (upd (upd (fun _ => 0) 0 p1) 1 p0)))] := hD_3
  clear hP_1 hD_1 hS_1
  refine lv_goto (tgt := 47) hx hb dX7_add_39 (by decide) ?_
  have hP9 := hP_3.sub (ws' := [(h0, .inr (10, [.ref h1, .int 2, .int 0, .int 0])), (h1, .inl (k0, 100, .inl (upd (upd (fun _ => 0) 0 p1) 1 p0)))]) [0, 1] rfl
  have hD9 := hD_3.sub (ws' := [(h0, .inr (10, [.ref h1, .int 2, .int 0, .int 0])), (h1, .inl (k0, 100, .inl (upd (upd (fun _ => 0) 0 p1) 1 p0)))]) [0, 1] (by decide) rfl
  have hK9 := hK.sub (tys' := [(k0, .int)]) [0] rfl
  refine W.widen (k := 0) (n := 0) (by decide) (by decide) ?_
  exact W.vret hx hb hr (fun t9 ht9 hW9 => ⟨⟨0, rfl, rfl, ⟨by rw [ht9]; exact hP9, va_K.moved hW9.alike hK9, hD9⟩⟩, hS_3.F ht9⟩) hS_3.2.2 dX7_add_47
set_option maxHeartbeats 4000000 in
set_option maxRecDepth 100000 in
theorem mt_X7_add_v11 (l : Launch) (dC : Nat → ClassId) (dI : Nat → Nat → Nat) (h0 h1 : Nat) (k0 : ClassId) (p0 p1 p2 : Int32) (sz : Nat) : Met l yX7_add (WS yX7_add cX7_add 2 none) ({ frames := 0, cells := 0, slots := 0, locals := 0 }) (va_Pc [.ref h0, .int p0] (fun U => U.heap.size = sz ∧ va_P (dC, dI) vwCl [(h0, .inr (10, [.ref h1, .int 2, .int 0, .int 0])), (h1, .inl (k0, 100, .inl (upd (upd (fun _ => 0) 0 p1) 1 p2)))] U.heap ∧ va_K (dC, dI) vwCl [(k0, .int)] U ∧ va_D (fun _ => True) [(h0, .inr (10, [.ref h1, .int 2, .int 0, .int 0])), (h1, .inl (k0, 100, .inl (upd (upd (fun _ => 0) 0 p1) 1 p2)))])) (va_Qv (fun (u : Nat) => (u = 0)) (fun (_ : Nat) (t : State) => (va_P (dC, dI) vwCl [(h0, .inr (10, [.ref h1, .int 3, .int 0, .int 0])), (h1, .inl (k0, 100, .inl (upd (upd (upd (fun _ => 0) 0 p1) 1 p2) 2 p0)))] t.heap ∧ va_K (dC, dI) vwCl [(k0, .int)] t ∧ va_D (va_A [(h0, .inr (10, [.ref h1, .int 2, .int 0, .int 0])), (h1, .inl (k0, 100, .inl (upd (upd (fun _ => 0) 0 p1) 1 p2)))] sz) [(h0, .inr (10, [.ref h1, .int 3, .int 0, .int 0])), (h1, .inl (k0, 100, .inl (upd (upd (upd (fun _ => 0) 0 p1) 1 p2) 2 p0)))])) (va_A [(h0, .inr (10, [.ref h1, .int 2, .int 0, .int 0])), (h1, .inl (k0, 100, .inl (upd (upd (fun _ => 0) 0 p1) 1 p2)))] sz)) 0 0 (va_A [(h0, .inr (10, [.ref h1, .int 2, .int 0, .int 0])), (h1, .inl (k0, 100, .inl (upd (upd (fun _ => 0) 0 p1) 1 p2)))] sz) := by
  refine Met.ofW (cc := cX7_add) (maxL := 2) (ret := none) (by decide) rfl ?_
  intro p e s m args below meth c s₁ B hml hv
  obtain ⟨rfl, hsz, hP, hK, hD0⟩ := hv
  have hx := B.exec
  have hb := B.bytes
  have hr := B.returns
  have hts := atoms_spec (ws := WS yX7_add cX7_add 2 none) B.pre
  have ht : ∀ w ∈ TW, w.before _ s = true := fun w h => hts w (List.mem_cons_of_mem _ h)
  have hown : s.vm.findClass "PatternWorkshop$Row" = some m.cls := findClass_of_methodNamed B.named
  have hlocks := B.notSynchronized
  subst hsz
  have hD := hD0.self (sz := s.heap.size)
  generalize hAe : va_A [(h0, .inr (10, [.ref h1, .int 2, .int 0, .int 0])), (h1, .inl (k0, 100, .inl (upd (upd (fun _ => 0) 0 p1) 1 p2)))] s.heap.size = A at hD ⊢
  have hA : ∀ q : Nat, s.heap.size ≤ q → A q := fun q h => by rw [← hAe]; exact Or.inr h
  have hS : va_S A s.heap s.heap [] := va_S.rf
  have hP : va_P (dC, dI) vwCl [(h0, .inr (10, [.ref h1, .int 2, .int 0, .int 0])), (h1, .inl (k0, 100, .inl (upd (upd (fun _ => 0) 0 p1) 1 p2)))] s.heap := hP
  have hl := lv_entry ([.ref h0, .int p0]) (n := 2) (Nat.le_of_ble_eq_true rfl)
  rw [lg_entry_eq]
  generalize (lg_sl ([.ref h0, .int p0]) ++ List.replicate (2 - (lg_sl ([.ref h0, .int p0])).length) Slot.unset).toArray = ls at hl ⊢
  have hl : lv_has ls 2 [(0, .ref h0), (1, .int p0)] := hl
  clear hD0
  refine lv_aload_n hx hb dX7_add_0 rfl (lv_at hl 0 rfl) ?_
  refine va_get (D := (dC, dI)) (ci := 10) (v := .int 2) (C := RX7) (T := TX7) (N := 4) hx hb ht inX7 hown hK hP 0 rfl rfl 1 (by decide) (ht _ tw_277) (fun _ h9 => h9) rfl dX7_add_1 ?_
  refine lv_if_lt (tgt := 42) hx hb dX7_add_4 (by decide) (fun c_ => absurd c_ (by decide)) (fun _ => ?_)
  refine lv_aload_n hx hb dX7_add_7 rfl (lv_at hl 0 rfl) ?_
  refine va_get (D := (dC, dI)) (ci := 10) (v := .int 2) (C := RX7) (T := TX7) (N := 4) hx hb ht inX7 hown hK hP 0 rfl rfl 1 (by decide) (ht _ tw_277) (fun _ h9 => h9) rfl dX7_add_8 ?_
  refine lv_aload_n hx hb dX7_add_11 rfl (lv_at hl 0 rfl) ?_
  refine va_get (D := (dC, dI)) (ci := 10) (v := .ref h1) (C := RX7) (T := TX7) (N := 4) hx hb ht inX7 hown hK hP 0 rfl rfl 0 (by decide) (ht _ tw_276) (fun _ h9 => h9) rfl dX7_add_12 ?_
  refine va_alen hx hb hK hP 1 0 rfl rfl (v := 100) (show Int32.ofNat 100 = 100 by decide) dX7_add_15 ?_
  refine lv_icmp_ge (tgt := 42) hx hb dX7_add_16 (by decide) (fun c_ => absurd c_ (by decide)) (fun _ => ?_)
  refine lv_aload_n hx hb dX7_add_19 rfl (lv_at hl 0 rfl) ?_
  refine va_get (D := (dC, dI)) (ci := 10) (v := .ref h1) (C := RX7) (T := TX7) (N := 4) hx hb ht inX7 hown hK hP 0 rfl rfl 0 (by decide) (ht _ tw_276) (fun _ h9 => h9) rfl dX7_add_20 ?_
  refine lv_aload_n hx hb dX7_add_23 rfl (lv_at hl 0 rfl) ?_
  refine va_get (D := (dC, dI)) (ci := 10) (v := .int 2) (C := RX7) (T := TX7) (N := 4) hx hb ht inX7 hown hK hP 0 rfl rfl 1 (by decide) (ht _ tw_277) (fun _ h9 => h9) rfl dX7_add_24 ?_
  refine lv_iload_n hx hb dX7_add_27 rfl (lv_at hl 1 rfl) ?_
  refine va_iast hx hb hK hP hD hS 1 0 rfl rfl (i := 2) (vpi (by decide)) dX7_add_28 (fun H_1 locs_1 hP_1 hD_1 hS_1 => ?_)
  have hP_1 : va_P (dC, dI) vwCl [(h0, .inr (10, [.ref h1, .int 2, .int 0, .int 0])), (h1, .inl (k0, 100, .inl (upd (upd (upd (fun _ => 0) 0 p1) 1 p2) 2 p0)))] H_1 := hP_1
  have hD_1 : va_D A [(h0, .inr (10, [.ref h1, .int 2, .int 0, .int 0])), (h1, .inl (k0, 100, .inl (upd (upd (upd (fun _ => 0) 0 p1) 1 p2) 2 p0)))] := hD_1
  clear hP hD hS
  refine lv_aload_n hx hb dX7_add_29 rfl (lv_at hl 0 rfl) ?_
  refine lv_dup hx hb dX7_add_30 rfl ?_
  refine va_get (D := (dC, dI)) (ci := 10) (v := .int 2) (C := RX7) (T := TX7) (N := 4) hx hb ht inX7 hown hK hP_1 0 rfl rfl 1 (by decide) (ht _ tw_277) (fun _ h9 => h9) rfl dX7_add_31 ?_
  refine lv_iconst (v := 1) hx hb dX7_add_34 (by decide) ?_
  refine lv_iadd hx hb dX7_add_35 ?_
  refine lv_topi (fun x_2 ex_2 => ?_)
  obtain rfl : x_2 = 3 := ex_2.trans (by decide)
  refine va_put (D := (dC, dI)) (ci := 10) (v := .int 3) (ty := .int) (C := RX7) (T := TX7) (N := 4) hx hb ht inX7 tyX7 tyX7_ok nmX7 hown hK hP_1 hD_1 hS_1 0 rfl rfl 1 (by decide) (ht _ tw_277) (fun _ h9 => h9) rfl (by decide +kernel) rfl rfl (Nat.le_of_ble_eq_true rfl) dX7_add_36 (fun H_3 locs_3 hP_3 hD_3 hS_3 => ?_)
  have hP_3 : va_P (dC, dI) vwCl [(h0, .inr (10, [.ref h1, .int 3, .int 0, .int 0])), (h1, .inl (k0, 100, .inl (upd (upd (upd (fun _ => 0) 0 p1) 1 p2) 2 p0)))] H_3 := hP_3
  have hD_3 : va_D A [(h0, .inr (10, [.ref h1, .int 3, .int 0, .int 0])), (h1, .inl (k0, 100, .inl (upd (upd (upd (fun _ => 0) 0 p1) 1 p2) 2 p0)))] := hD_3
  clear hP_1 hD_1 hS_1
  refine lv_goto (tgt := 47) hx hb dX7_add_39 (by decide) ?_
  have hP9 := hP_3.sub (ws' := [(h0, .inr (10, [.ref h1, .int 3, .int 0, .int 0])), (h1, .inl (k0, 100, .inl (upd (upd (upd (fun _ => 0) 0 p1) 1 p2) 2 p0)))]) [0, 1] rfl
  have hD9 := hD_3.sub (ws' := [(h0, .inr (10, [.ref h1, .int 3, .int 0, .int 0])), (h1, .inl (k0, 100, .inl (upd (upd (upd (fun _ => 0) 0 p1) 1 p2) 2 p0)))]) [0, 1] (by decide) rfl
  have hK9 := hK.sub (tys' := [(k0, .int)]) [0] rfl
  refine W.widen (k := 0) (n := 0) (by decide) (by decide) ?_
  exact W.vret hx hb hr (fun t9 ht9 hW9 => ⟨⟨0, rfl, rfl, ⟨by rw [ht9]; exact hP9, va_K.moved hW9.alike hK9, hD9⟩⟩, hS_3.F ht9⟩) hS_3.2.2 dX7_add_47
set_option maxHeartbeats 4000000 in
set_option maxRecDepth 100000 in
theorem mt_X7_add_v12 (l : Launch) (dC : Nat → ClassId) (dI : Nat → Nat → Nat) (h0 h1 : Nat) (k0 : ClassId) (p0 p1 p2 p3 : Int32) (sz : Nat) : Met l yX7_add (WS yX7_add cX7_add 2 none) ({ frames := 0, cells := 0, slots := 0, locals := 0 }) (va_Pc [.ref h0, .int p0] (fun U => U.heap.size = sz ∧ va_P (dC, dI) vwCl [(h0, .inr (10, [.ref h1, .int 3, .int 0, .int 0])), (h1, .inl (k0, 100, .inl (upd (upd (upd (fun _ => 0) 0 p1) 1 p2) 2 p3)))] U.heap ∧ va_K (dC, dI) vwCl [(k0, .int)] U ∧ va_D (fun _ => True) [(h0, .inr (10, [.ref h1, .int 3, .int 0, .int 0])), (h1, .inl (k0, 100, .inl (upd (upd (upd (fun _ => 0) 0 p1) 1 p2) 2 p3)))])) (va_Qv (fun (u : Nat) => (u = 0)) (fun (_ : Nat) (t : State) => (va_P (dC, dI) vwCl [(h0, .inr (10, [.ref h1, .int 4, .int 0, .int 0])), (h1, .inl (k0, 100, .inl (upd (upd (upd (upd (fun _ => 0) 0 p1) 1 p2) 2 p3) 3 p0)))] t.heap ∧ va_K (dC, dI) vwCl [(k0, .int)] t ∧ va_D (va_A [(h0, .inr (10, [.ref h1, .int 3, .int 0, .int 0])), (h1, .inl (k0, 100, .inl (upd (upd (upd (fun _ => 0) 0 p1) 1 p2) 2 p3)))] sz) [(h0, .inr (10, [.ref h1, .int 4, .int 0, .int 0])), (h1, .inl (k0, 100, .inl (upd (upd (upd (upd (fun _ => 0) 0 p1) 1 p2) 2 p3) 3 p0)))])) (va_A [(h0, .inr (10, [.ref h1, .int 3, .int 0, .int 0])), (h1, .inl (k0, 100, .inl (upd (upd (upd (fun _ => 0) 0 p1) 1 p2) 2 p3)))] sz)) 0 0 (va_A [(h0, .inr (10, [.ref h1, .int 3, .int 0, .int 0])), (h1, .inl (k0, 100, .inl (upd (upd (upd (fun _ => 0) 0 p1) 1 p2) 2 p3)))] sz) := by
  refine Met.ofW (cc := cX7_add) (maxL := 2) (ret := none) (by decide) rfl ?_
  intro p e s m args below meth c s₁ B hml hv
  obtain ⟨rfl, hsz, hP, hK, hD0⟩ := hv
  have hx := B.exec
  have hb := B.bytes
  have hr := B.returns
  have hts := atoms_spec (ws := WS yX7_add cX7_add 2 none) B.pre
  have ht : ∀ w ∈ TW, w.before _ s = true := fun w h => hts w (List.mem_cons_of_mem _ h)
  have hown : s.vm.findClass "PatternWorkshop$Row" = some m.cls := findClass_of_methodNamed B.named
  have hlocks := B.notSynchronized
  subst hsz
  have hD := hD0.self (sz := s.heap.size)
  generalize hAe : va_A [(h0, .inr (10, [.ref h1, .int 3, .int 0, .int 0])), (h1, .inl (k0, 100, .inl (upd (upd (upd (fun _ => 0) 0 p1) 1 p2) 2 p3)))] s.heap.size = A at hD ⊢
  have hA : ∀ q : Nat, s.heap.size ≤ q → A q := fun q h => by rw [← hAe]; exact Or.inr h
  have hS : va_S A s.heap s.heap [] := va_S.rf
  have hP : va_P (dC, dI) vwCl [(h0, .inr (10, [.ref h1, .int 3, .int 0, .int 0])), (h1, .inl (k0, 100, .inl (upd (upd (upd (fun _ => 0) 0 p1) 1 p2) 2 p3)))] s.heap := hP
  have hl := lv_entry ([.ref h0, .int p0]) (n := 2) (Nat.le_of_ble_eq_true rfl)
  rw [lg_entry_eq]
  generalize (lg_sl ([.ref h0, .int p0]) ++ List.replicate (2 - (lg_sl ([.ref h0, .int p0])).length) Slot.unset).toArray = ls at hl ⊢
  have hl : lv_has ls 2 [(0, .ref h0), (1, .int p0)] := hl
  clear hD0
  refine lv_aload_n hx hb dX7_add_0 rfl (lv_at hl 0 rfl) ?_
  refine va_get (D := (dC, dI)) (ci := 10) (v := .int 3) (C := RX7) (T := TX7) (N := 4) hx hb ht inX7 hown hK hP 0 rfl rfl 1 (by decide) (ht _ tw_277) (fun _ h9 => h9) rfl dX7_add_1 ?_
  refine lv_if_lt (tgt := 42) hx hb dX7_add_4 (by decide) (fun c_ => absurd c_ (by decide)) (fun _ => ?_)
  refine lv_aload_n hx hb dX7_add_7 rfl (lv_at hl 0 rfl) ?_
  refine va_get (D := (dC, dI)) (ci := 10) (v := .int 3) (C := RX7) (T := TX7) (N := 4) hx hb ht inX7 hown hK hP 0 rfl rfl 1 (by decide) (ht _ tw_277) (fun _ h9 => h9) rfl dX7_add_8 ?_
  refine lv_aload_n hx hb dX7_add_11 rfl (lv_at hl 0 rfl) ?_
  refine va_get (D := (dC, dI)) (ci := 10) (v := .ref h1) (C := RX7) (T := TX7) (N := 4) hx hb ht inX7 hown hK hP 0 rfl rfl 0 (by decide) (ht _ tw_276) (fun _ h9 => h9) rfl dX7_add_12 ?_
  refine va_alen hx hb hK hP 1 0 rfl rfl (v := 100) (show Int32.ofNat 100 = 100 by decide) dX7_add_15 ?_
  refine lv_icmp_ge (tgt := 42) hx hb dX7_add_16 (by decide) (fun c_ => absurd c_ (by decide)) (fun _ => ?_)
  refine lv_aload_n hx hb dX7_add_19 rfl (lv_at hl 0 rfl) ?_
  refine va_get (D := (dC, dI)) (ci := 10) (v := .ref h1) (C := RX7) (T := TX7) (N := 4) hx hb ht inX7 hown hK hP 0 rfl rfl 0 (by decide) (ht _ tw_276) (fun _ h9 => h9) rfl dX7_add_20 ?_
  refine lv_aload_n hx hb dX7_add_23 rfl (lv_at hl 0 rfl) ?_
  refine va_get (D := (dC, dI)) (ci := 10) (v := .int 3) (C := RX7) (T := TX7) (N := 4) hx hb ht inX7 hown hK hP 0 rfl rfl 1 (by decide) (ht _ tw_277) (fun _ h9 => h9) rfl dX7_add_24 ?_
  refine lv_iload_n hx hb dX7_add_27 rfl (lv_at hl 1 rfl) ?_
  refine va_iast hx hb hK hP hD hS 1 0 rfl rfl (i := 3) (vpi (by decide)) dX7_add_28 (fun H_1 locs_1 hP_1 hD_1 hS_1 => ?_)
  have hP_1 : va_P (dC, dI) vwCl [(h0, .inr (10, [.ref h1, .int 3, .int 0, .int 0])), (h1, .inl (k0, 100, .inl (upd (upd (upd (upd (fun _ => 0) 0 p1) 1 p2) 2 p3) 3 p0)))] H_1 := hP_1
  have hD_1 : va_D A [(h0, .inr (10, [.ref h1, .int 3, .int 0, .int 0])), (h1, .inl (k0, 100, .inl (upd (upd (upd (upd (fun _ => 0) 0 p1) 1 p2) 2 p3) 3 p0)))] := hD_1
  clear hP hD hS
  refine lv_aload_n hx hb dX7_add_29 rfl (lv_at hl 0 rfl) ?_
  refine lv_dup hx hb dX7_add_30 rfl ?_
  refine va_get (D := (dC, dI)) (ci := 10) (v := .int 3) (C := RX7) (T := TX7) (N := 4) hx hb ht inX7 hown hK hP_1 0 rfl rfl 1 (by decide) (ht _ tw_277) (fun _ h9 => h9) rfl dX7_add_31 ?_
  refine lv_iconst (v := 1) hx hb dX7_add_34 (by decide) ?_
  refine lv_iadd hx hb dX7_add_35 ?_
  refine lv_topi (fun x_2 ex_2 => ?_)
  obtain rfl : x_2 = 4 := ex_2.trans (by decide)
  refine va_put (D := (dC, dI)) (ci := 10) (v := .int 4) (ty := .int) (C := RX7) (T := TX7) (N := 4) hx hb ht inX7 tyX7 tyX7_ok nmX7 hown hK hP_1 hD_1 hS_1 0 rfl rfl 1 (by decide) (ht _ tw_277) (fun _ h9 => h9) rfl (by decide +kernel) rfl rfl (Nat.le_of_ble_eq_true rfl) dX7_add_36 (fun H_3 locs_3 hP_3 hD_3 hS_3 => ?_)
  have hP_3 : va_P (dC, dI) vwCl [(h0, .inr (10, [.ref h1, .int 4, .int 0, .int 0])), (h1, .inl (k0, 100, .inl (upd (upd (upd (upd (fun _ => 0) 0 p1) 1 p2) 2 p3) 3 p0)))] H_3 := hP_3
  have hD_3 : va_D A [(h0, .inr (10, [.ref h1, .int 4, .int 0, .int 0])), (h1, .inl (k0, 100, .inl (upd (upd (upd (upd (fun _ => 0) 0 p1) 1 p2) 2 p3) 3 p0)))] := hD_3
  clear hP_1 hD_1 hS_1
  refine lv_goto (tgt := 47) hx hb dX7_add_39 (by decide) ?_
  have hP9 := hP_3.sub (ws' := [(h0, .inr (10, [.ref h1, .int 4, .int 0, .int 0])), (h1, .inl (k0, 100, .inl (upd (upd (upd (upd (fun _ => 0) 0 p1) 1 p2) 2 p3) 3 p0)))]) [0, 1] rfl
  have hD9 := hD_3.sub (ws' := [(h0, .inr (10, [.ref h1, .int 4, .int 0, .int 0])), (h1, .inl (k0, 100, .inl (upd (upd (upd (upd (fun _ => 0) 0 p1) 1 p2) 2 p3) 3 p0)))]) [0, 1] (by decide) rfl
  have hK9 := hK.sub (tys' := [(k0, .int)]) [0] rfl
  refine W.widen (k := 0) (n := 0) (by decide) (by decide) ?_
  exact W.vret hx hb hr (fun t9 ht9 hW9 => ⟨⟨0, rfl, rfl, ⟨by rw [ht9]; exact hP9, va_K.moved hW9.alike hK9, hD9⟩⟩, hS_3.F ht9⟩) hS_3.2.2 dX7_add_47
set_option maxHeartbeats 4000000 in
set_option maxRecDepth 100000 in
theorem mt_X11_endSearchOver_v2 (l : Launch) (dC : Nat → ClassId) (dI : Nat → Nat → Nat) (h0 h1 h2 h3 h4 h5 h6 h7 h8 h9 h10 h11 h12 : Nat) (sz : Nat) : Met l yX11_endSearchOver (WS yX11_endSearchOver cX11_endSearchOver 2 none) ({ frames := 0, cells := 0, slots := 0, locals := 0 }) (va_Pc [.ref h0, .int 1] (fun U => U.heap.size = sz ∧ va_P (dC, dI) vwCl [(h0, .inr (14, [.ref h1, .ref h2, .ref h3, .ref h4, .int 0, .ref h5, .ref h6, .ref h7, .ref h8, .ref h9, .ref h10, .ref h11, .ref h12, .int (-1), .int 0, .int 0, .int (-1), .int (-1)]))] U.heap ∧ va_K (dC, dI) vwCl [] U ∧ va_D (fun _ => True) [(h0, .inr (14, [.ref h1, .ref h2, .ref h3, .ref h4, .int 0, .ref h5, .ref h6, .ref h7, .ref h8, .ref h9, .ref h10, .ref h11, .ref h12, .int (-1), .int 0, .int 0, .int (-1), .int (-1)]))])) (va_Qv (fun (u : Nat) => (u = 0)) (fun (_ : Nat) (t : State) => (va_P (dC, dI) vwCl [(h0, .inr (14, [.ref h1, .ref h2, .ref h3, .ref h4, .int 0, .ref h5, .ref h6, .ref h7, .ref h8, .ref h9, .ref h10, .ref h11, .ref h12, .int (-1), .int 0, .int 0, .int (-1), .int (-1)]))] t.heap ∧ va_K (dC, dI) vwCl [] t ∧ va_D (va_A [(h0, .inr (14, [.ref h1, .ref h2, .ref h3, .ref h4, .int 0, .ref h5, .ref h6, .ref h7, .ref h8, .ref h9, .ref h10, .ref h11, .ref h12, .int (-1), .int 0, .int 0, .int (-1), .int (-1)]))] sz) [(h0, .inr (14, [.ref h1, .ref h2, .ref h3, .ref h4, .int 0, .ref h5, .ref h6, .ref h7, .ref h8, .ref h9, .ref h10, .ref h11, .ref h12, .int (-1), .int 0, .int 0, .int (-1), .int (-1)]))])) (va_A [(h0, .inr (14, [.ref h1, .ref h2, .ref h3, .ref h4, .int 0, .ref h5, .ref h6, .ref h7, .ref h8, .ref h9, .ref h10, .ref h11, .ref h12, .int (-1), .int 0, .int 0, .int (-1), .int (-1)]))] sz)) 0 0 (va_A [(h0, .inr (14, [.ref h1, .ref h2, .ref h3, .ref h4, .int 0, .ref h5, .ref h6, .ref h7, .ref h8, .ref h9, .ref h10, .ref h11, .ref h12, .int (-1), .int 0, .int 0, .int (-1), .int (-1)]))] sz) := by
  refine Met.ofW (cc := cX11_endSearchOver) (maxL := 2) (ret := none) (by decide) rfl ?_
  intro p e s m args below meth c s₁ B hml hv
  obtain ⟨rfl, hsz, hP, hK, hD0⟩ := hv
  have hx := B.exec
  have hb := B.bytes
  have hr := B.returns
  have hts := atoms_spec (ws := WS yX11_endSearchOver cX11_endSearchOver 2 none) B.pre
  have ht : ∀ w ∈ TW, w.before _ s = true := fun w h => hts w (List.mem_cons_of_mem _ h)
  have hown : s.vm.findClass "PatternWorkshop" = some m.cls := findClass_of_methodNamed B.named
  have hlocks := B.notSynchronized
  subst hsz
  have hD := hD0.self (sz := s.heap.size)
  generalize hAe : va_A [(h0, .inr (14, [.ref h1, .ref h2, .ref h3, .ref h4, .int 0, .ref h5, .ref h6, .ref h7, .ref h8, .ref h9, .ref h10, .ref h11, .ref h12, .int (-1), .int 0, .int 0, .int (-1), .int (-1)]))] s.heap.size = A at hD ⊢
  have hA : ∀ q : Nat, s.heap.size ≤ q → A q := fun q h => by rw [← hAe]; exact Or.inr h
  have hS : va_S A s.heap s.heap [] := va_S.rf
  have hP : va_P (dC, dI) vwCl [(h0, .inr (14, [.ref h1, .ref h2, .ref h3, .ref h4, .int 0, .ref h5, .ref h6, .ref h7, .ref h8, .ref h9, .ref h10, .ref h11, .ref h12, .int (-1), .int 0, .int 0, .int (-1), .int (-1)]))] s.heap := hP
  have hl := lv_entry ([.ref h0, .int 1]) (n := 2) (Nat.le_of_ble_eq_true rfl)
  rw [lg_entry_eq]
  generalize (lg_sl ([.ref h0, .int 1]) ++ List.replicate (2 - (lg_sl ([.ref h0, .int 1])).length) Slot.unset).toArray = ls at hl ⊢
  have hl : lv_has ls 2 [(0, .ref h0), (1, .int 1)] := hl
  clear hD0
  refine lv_aload_n hx hb dX11_endSearchOver_0 rfl (lv_at hl 0 rfl) ?_
  refine va_get (D := (dC, dI)) (ci := 14) (v := .int (-1)) (C := RX11) (T := TX11) (N := 18) hx hb ht inX11 hown hK hP 0 rfl rfl 17 (by decide) (ht _ tw_817) (fun _ h9 => h9) rfl dX11_endSearchOver_1 ?_
  refine lv_iload_n hx hb dX11_endSearchOver_4 rfl (lv_at hl 1 rfl) ?_
  refine lv_icmp_ne (tgt := 12) hx hb dX11_endSearchOver_5 (by decide) (fun _ => ?_) (fun c_ => absurd c_ (by decide))
  have hP9 := hP.sub (ws' := [(h0, .inr (14, [.ref h1, .ref h2, .ref h3, .ref h4, .int 0, .ref h5, .ref h6, .ref h7, .ref h8, .ref h9, .ref h10, .ref h11, .ref h12, .int (-1), .int 0, .int 0, .int (-1), .int (-1)]))]) [0] rfl
  have hD9 := hD.sub (ws' := [(h0, .inr (14, [.ref h1, .ref h2, .ref h3, .ref h4, .int 0, .ref h5, .ref h6, .ref h7, .ref h8, .ref h9, .ref h10, .ref h11, .ref h12, .int (-1), .int 0, .int 0, .int (-1), .int (-1)]))]) [0] (by decide) rfl
  have hK9 := hK.sub (tys' := []) [] rfl
  refine W.widen (k := 0) (n := 0) (by decide) (by decide) ?_
  exact W.vret hx hb hr (fun t9 ht9 hW9 => ⟨⟨0, rfl, rfl, ⟨by rw [ht9]; exact hP9, va_K.moved hW9.alike hK9, hD9⟩⟩, hS.F ht9⟩) hS.2.2 dX11_endSearchOver_12
set_option maxHeartbeats 4000000 in
set_option maxRecDepth 100000 in
theorem mt_X11_endSearchOver_v3 (l : Launch) (dC : Nat → ClassId) (dI : Nat → Nat → Nat) (h0 h1 h2 h3 h4 h5 h6 h7 h8 h9 h10 h11 h12 : Nat) (sz : Nat) : Met l yX11_endSearchOver (WS yX11_endSearchOver cX11_endSearchOver 2 none) ({ frames := 0, cells := 0, slots := 0, locals := 0 }) (va_Pc [.ref h0, .int 2] (fun U => U.heap.size = sz ∧ va_P (dC, dI) vwCl [(h0, .inr (14, [.ref h1, .ref h2, .ref h3, .ref h4, .int 0, .ref h5, .ref h6, .ref h7, .ref h8, .ref h9, .ref h10, .ref h11, .ref h12, .int (-1), .int 0, .int 0, .int (-1), .int (-1)]))] U.heap ∧ va_K (dC, dI) vwCl [] U ∧ va_D (fun _ => True) [(h0, .inr (14, [.ref h1, .ref h2, .ref h3, .ref h4, .int 0, .ref h5, .ref h6, .ref h7, .ref h8, .ref h9, .ref h10, .ref h11, .ref h12, .int (-1), .int 0, .int 0, .int (-1), .int (-1)]))])) (va_Qv (fun (u : Nat) => (u = 0)) (fun (_ : Nat) (t : State) => (va_P (dC, dI) vwCl [(h0, .inr (14, [.ref h1, .ref h2, .ref h3, .ref h4, .int 0, .ref h5, .ref h6, .ref h7, .ref h8, .ref h9, .ref h10, .ref h11, .ref h12, .int (-1), .int 0, .int 0, .int (-1), .int (-1)]))] t.heap ∧ va_K (dC, dI) vwCl [] t ∧ va_D (va_A [(h0, .inr (14, [.ref h1, .ref h2, .ref h3, .ref h4, .int 0, .ref h5, .ref h6, .ref h7, .ref h8, .ref h9, .ref h10, .ref h11, .ref h12, .int (-1), .int 0, .int 0, .int (-1), .int (-1)]))] sz) [(h0, .inr (14, [.ref h1, .ref h2, .ref h3, .ref h4, .int 0, .ref h5, .ref h6, .ref h7, .ref h8, .ref h9, .ref h10, .ref h11, .ref h12, .int (-1), .int 0, .int 0, .int (-1), .int (-1)]))])) (va_A [(h0, .inr (14, [.ref h1, .ref h2, .ref h3, .ref h4, .int 0, .ref h5, .ref h6, .ref h7, .ref h8, .ref h9, .ref h10, .ref h11, .ref h12, .int (-1), .int 0, .int 0, .int (-1), .int (-1)]))] sz)) 0 0 (va_A [(h0, .inr (14, [.ref h1, .ref h2, .ref h3, .ref h4, .int 0, .ref h5, .ref h6, .ref h7, .ref h8, .ref h9, .ref h10, .ref h11, .ref h12, .int (-1), .int 0, .int 0, .int (-1), .int (-1)]))] sz) := by
  refine Met.ofW (cc := cX11_endSearchOver) (maxL := 2) (ret := none) (by decide) rfl ?_
  intro p e s m args below meth c s₁ B hml hv
  obtain ⟨rfl, hsz, hP, hK, hD0⟩ := hv
  have hx := B.exec
  have hb := B.bytes
  have hr := B.returns
  have hts := atoms_spec (ws := WS yX11_endSearchOver cX11_endSearchOver 2 none) B.pre
  have ht : ∀ w ∈ TW, w.before _ s = true := fun w h => hts w (List.mem_cons_of_mem _ h)
  have hown : s.vm.findClass "PatternWorkshop" = some m.cls := findClass_of_methodNamed B.named
  have hlocks := B.notSynchronized
  subst hsz
  have hD := hD0.self (sz := s.heap.size)
  generalize hAe : va_A [(h0, .inr (14, [.ref h1, .ref h2, .ref h3, .ref h4, .int 0, .ref h5, .ref h6, .ref h7, .ref h8, .ref h9, .ref h10, .ref h11, .ref h12, .int (-1), .int 0, .int 0, .int (-1), .int (-1)]))] s.heap.size = A at hD ⊢
  have hA : ∀ q : Nat, s.heap.size ≤ q → A q := fun q h => by rw [← hAe]; exact Or.inr h
  have hS : va_S A s.heap s.heap [] := va_S.rf
  have hP : va_P (dC, dI) vwCl [(h0, .inr (14, [.ref h1, .ref h2, .ref h3, .ref h4, .int 0, .ref h5, .ref h6, .ref h7, .ref h8, .ref h9, .ref h10, .ref h11, .ref h12, .int (-1), .int 0, .int 0, .int (-1), .int (-1)]))] s.heap := hP
  have hl := lv_entry ([.ref h0, .int 2]) (n := 2) (Nat.le_of_ble_eq_true rfl)
  rw [lg_entry_eq]
  generalize (lg_sl ([.ref h0, .int 2]) ++ List.replicate (2 - (lg_sl ([.ref h0, .int 2])).length) Slot.unset).toArray = ls at hl ⊢
  have hl : lv_has ls 2 [(0, .ref h0), (1, .int 2)] := hl
  clear hD0
  refine lv_aload_n hx hb dX11_endSearchOver_0 rfl (lv_at hl 0 rfl) ?_
  refine va_get (D := (dC, dI)) (ci := 14) (v := .int (-1)) (C := RX11) (T := TX11) (N := 18) hx hb ht inX11 hown hK hP 0 rfl rfl 17 (by decide) (ht _ tw_817) (fun _ h9 => h9) rfl dX11_endSearchOver_1 ?_
  refine lv_iload_n hx hb dX11_endSearchOver_4 rfl (lv_at hl 1 rfl) ?_
  refine lv_icmp_ne (tgt := 12) hx hb dX11_endSearchOver_5 (by decide) (fun _ => ?_) (fun c_ => absurd c_ (by decide))
  have hP9 := hP.sub (ws' := [(h0, .inr (14, [.ref h1, .ref h2, .ref h3, .ref h4, .int 0, .ref h5, .ref h6, .ref h7, .ref h8, .ref h9, .ref h10, .ref h11, .ref h12, .int (-1), .int 0, .int 0, .int (-1), .int (-1)]))]) [0] rfl
  have hD9 := hD.sub (ws' := [(h0, .inr (14, [.ref h1, .ref h2, .ref h3, .ref h4, .int 0, .ref h5, .ref h6, .ref h7, .ref h8, .ref h9, .ref h10, .ref h11, .ref h12, .int (-1), .int 0, .int 0, .int (-1), .int (-1)]))]) [0] (by decide) rfl
  have hK9 := hK.sub (tys' := []) [] rfl
  refine W.widen (k := 0) (n := 0) (by decide) (by decide) ?_
  exact W.vret hx hb hr (fun t9 ht9 hW9 => ⟨⟨0, rfl, rfl, ⟨by rw [ht9]; exact hP9, va_K.moved hW9.alike hK9, hD9⟩⟩, hS.F ht9⟩) hS.2.2 dX11_endSearchOver_12
set_option maxHeartbeats 4000000 in
set_option maxRecDepth 100000 in
theorem mt_X11_endSearchOver_v4 (l : Launch) (dC : Nat → ClassId) (dI : Nat → Nat → Nat) (h0 h1 h2 h3 h4 h5 h6 h7 h8 h9 h10 h11 h12 : Nat) (sz : Nat) : Met l yX11_endSearchOver (WS yX11_endSearchOver cX11_endSearchOver 2 none) ({ frames := 0, cells := 0, slots := 0, locals := 0 }) (va_Pc [.ref h0, .int 3] (fun U => U.heap.size = sz ∧ va_P (dC, dI) vwCl [(h0, .inr (14, [.ref h1, .ref h2, .ref h3, .ref h4, .int 0, .ref h5, .ref h6, .ref h7, .ref h8, .ref h9, .ref h10, .ref h11, .ref h12, .int (-1), .int 0, .int 0, .int (-1), .int (-1)]))] U.heap ∧ va_K (dC, dI) vwCl [] U ∧ va_D (fun _ => True) [(h0, .inr (14, [.ref h1, .ref h2, .ref h3, .ref h4, .int 0, .ref h5, .ref h6, .ref h7, .ref h8, .ref h9, .ref h10, .ref h11, .ref h12, .int (-1), .int 0, .int 0, .int (-1), .int (-1)]))])) (va_Qv (fun (u : Nat) => (u = 0)) (fun (_ : Nat) (t : State) => (va_P (dC, dI) vwCl [(h0, .inr (14, [.ref h1, .ref h2, .ref h3, .ref h4, .int 0, .ref h5, .ref h6, .ref h7, .ref h8, .ref h9, .ref h10, .ref h11, .ref h12, .int (-1), .int 0, .int 0, .int (-1), .int (-1)]))] t.heap ∧ va_K (dC, dI) vwCl [] t ∧ va_D (va_A [(h0, .inr (14, [.ref h1, .ref h2, .ref h3, .ref h4, .int 0, .ref h5, .ref h6, .ref h7, .ref h8, .ref h9, .ref h10, .ref h11, .ref h12, .int (-1), .int 0, .int 0, .int (-1), .int (-1)]))] sz) [(h0, .inr (14, [.ref h1, .ref h2, .ref h3, .ref h4, .int 0, .ref h5, .ref h6, .ref h7, .ref h8, .ref h9, .ref h10, .ref h11, .ref h12, .int (-1), .int 0, .int 0, .int (-1), .int (-1)]))])) (va_A [(h0, .inr (14, [.ref h1, .ref h2, .ref h3, .ref h4, .int 0, .ref h5, .ref h6, .ref h7, .ref h8, .ref h9, .ref h10, .ref h11, .ref h12, .int (-1), .int 0, .int 0, .int (-1), .int (-1)]))] sz)) 0 0 (va_A [(h0, .inr (14, [.ref h1, .ref h2, .ref h3, .ref h4, .int 0, .ref h5, .ref h6, .ref h7, .ref h8, .ref h9, .ref h10, .ref h11, .ref h12, .int (-1), .int 0, .int 0, .int (-1), .int (-1)]))] sz) := by
  refine Met.ofW (cc := cX11_endSearchOver) (maxL := 2) (ret := none) (by decide) rfl ?_
  intro p e s m args below meth c s₁ B hml hv
  obtain ⟨rfl, hsz, hP, hK, hD0⟩ := hv
  have hx := B.exec
  have hb := B.bytes
  have hr := B.returns
  have hts := atoms_spec (ws := WS yX11_endSearchOver cX11_endSearchOver 2 none) B.pre
  have ht : ∀ w ∈ TW, w.before _ s = true := fun w h => hts w (List.mem_cons_of_mem _ h)
  have hown : s.vm.findClass "PatternWorkshop" = some m.cls := findClass_of_methodNamed B.named
  have hlocks := B.notSynchronized
  subst hsz
  have hD := hD0.self (sz := s.heap.size)
  generalize hAe : va_A [(h0, .inr (14, [.ref h1, .ref h2, .ref h3, .ref h4, .int 0, .ref h5, .ref h6, .ref h7, .ref h8, .ref h9, .ref h10, .ref h11, .ref h12, .int (-1), .int 0, .int 0, .int (-1), .int (-1)]))] s.heap.size = A at hD ⊢
  have hA : ∀ q : Nat, s.heap.size ≤ q → A q := fun q h => by rw [← hAe]; exact Or.inr h
  have hS : va_S A s.heap s.heap [] := va_S.rf
  have hP : va_P (dC, dI) vwCl [(h0, .inr (14, [.ref h1, .ref h2, .ref h3, .ref h4, .int 0, .ref h5, .ref h6, .ref h7, .ref h8, .ref h9, .ref h10, .ref h11, .ref h12, .int (-1), .int 0, .int 0, .int (-1), .int (-1)]))] s.heap := hP
  have hl := lv_entry ([.ref h0, .int 3]) (n := 2) (Nat.le_of_ble_eq_true rfl)
  rw [lg_entry_eq]
  generalize (lg_sl ([.ref h0, .int 3]) ++ List.replicate (2 - (lg_sl ([.ref h0, .int 3])).length) Slot.unset).toArray = ls at hl ⊢
  have hl : lv_has ls 2 [(0, .ref h0), (1, .int 3)] := hl
  clear hD0
  refine lv_aload_n hx hb dX11_endSearchOver_0 rfl (lv_at hl 0 rfl) ?_
  refine va_get (D := (dC, dI)) (ci := 14) (v := .int (-1)) (C := RX11) (T := TX11) (N := 18) hx hb ht inX11 hown hK hP 0 rfl rfl 17 (by decide) (ht _ tw_817) (fun _ h9 => h9) rfl dX11_endSearchOver_1 ?_
  refine lv_iload_n hx hb dX11_endSearchOver_4 rfl (lv_at hl 1 rfl) ?_
  refine lv_icmp_ne (tgt := 12) hx hb dX11_endSearchOver_5 (by decide) (fun _ => ?_) (fun c_ => absurd c_ (by decide))
  have hP9 := hP.sub (ws' := [(h0, .inr (14, [.ref h1, .ref h2, .ref h3, .ref h4, .int 0, .ref h5, .ref h6, .ref h7, .ref h8, .ref h9, .ref h10, .ref h11, .ref h12, .int (-1), .int 0, .int 0, .int (-1), .int (-1)]))]) [0] rfl
  have hD9 := hD.sub (ws' := [(h0, .inr (14, [.ref h1, .ref h2, .ref h3, .ref h4, .int 0, .ref h5, .ref h6, .ref h7, .ref h8, .ref h9, .ref h10, .ref h11, .ref h12, .int (-1), .int 0, .int 0, .int (-1), .int (-1)]))]) [0] (by decide) rfl
  have hK9 := hK.sub (tys' := []) [] rfl
  refine W.widen (k := 0) (n := 0) (by decide) (by decide) ?_
  exact W.vret hx hb hr (fun t9 ht9 hW9 => ⟨⟨0, rfl, rfl, ⟨by rw [ht9]; exact hP9, va_K.moved hW9.alike hK9, hD9⟩⟩, hS.F ht9⟩) hS.2.2 dX11_endSearchOver_12
