set_option maxHeartbeats 4000000 in
set_option maxRecDepth 100000 in
theorem mt_X7_init (l : Launch) (dC : Nat → ClassId) (dI : Nat → Nat → Nat) (h0 : Nat) (sz : Nat) : Met l yX7_init (WS yX7_init cX7_init 2 none) ({ frames := 1, cells := 1, slots := 200, locals := 14 }) (va_Pc [.ref h0, .int 200] (fun U => U.heap.size = sz ∧ va_P (dC, dI) vwCl [(h0, .inr (10, [.null, .int 0, .int 0, .int 0]))] U.heap ∧ va_K (dC, dI) vwCl [] U ∧ va_D (fun _ => True) [(h0, .inr (10, [.null, .int 0, .int 0, .int 0]))])) (va_Qv (fun (u : Nat) => (u = 0)) (fun (_ : Nat) (t : State) => (∃ (q_2 : Nat), ∃ (k_2 : ClassId), va_P (dC, dI) vwCl [(h0, .inr (10, [.ref q_2, .int 0, .int 0, .int 0])), (q_2, .inl (k_2, 200, .inl (fun _ => 0)))] t.heap ∧ va_K (dC, dI) vwCl [(k_2, .int)] t ∧ va_D (va_A [(h0, .inr (10, [.null, .int 0, .int 0, .int 0]))] sz) [(h0, .inr (10, [.ref q_2, .int 0, .int 0, .int 0])), (q_2, .inl (k_2, 200, .inl (fun _ => 0)))])) (va_A [(h0, .inr (10, [.null, .int 0, .int 0, .int 0]))] sz)) 1 200 (va_A [(h0, .inr (10, [.null, .int 0, .int 0, .int 0]))] sz) := by
  refine Met.ofW (cc := cX7_init) (maxL := 2) (ret := none) (by decide) rfl ?_
  intro p e s m args below meth c s₁ B hml hv
  obtain ⟨rfl, hsz, hP, hK, hD0⟩ := hv
  have hx := B.exec
  have hb := B.bytes
  have hr := B.returns
  have hts := atoms_spec (ws := WS yX7_init cX7_init 2 none) B.pre
  have ht : ∀ w ∈ TW, w.before _ s = true := fun w h => hts w (List.mem_cons_of_mem _ h)
  have hown : s.vm.findClass "PatternWorkshop$Row" = some m.cls := findClass_of_methodNamed B.named
  have hlocks := B.notSynchronized
  have hin : meth.name = "<init>" := (name_of_methodNamed B.named B.method).1
  subst hsz
  have hD := hD0.self (sz := s.heap.size)
  generalize hAe : va_A [(h0, .inr (10, [.null, .int 0, .int 0, .int 0]))] s.heap.size = A at hD ⊢
  have hA : ∀ q : Nat, s.heap.size ≤ q → A q := fun q h => by rw [← hAe]; exact Or.inr h
  have hS : va_S A s.heap s.heap [] := va_S.rf
  have hP : va_P (dC, dI) vwCl [(h0, .inr (10, [.null, .int 0, .int 0, .int 0]))] s.heap := hP
  have hl := lv_entry ([.ref h0, .int 200]) (n := 2) (Nat.le_of_ble_eq_true rfl)
  rw [lg_entry_eq]
  generalize (lg_sl ([.ref h0, .int 200]) ++ List.replicate (2 - (lg_sl ([.ref h0, .int 200])).length) Slot.unset).toArray = ls at hl ⊢
  have hl : lv_has ls 2 [(0, .ref h0), (1, .int 200)] := hl
  clear hD0
  refine lv_aload_n hx hb dX7_init_0 rfl (lv_at hl 0 rfl) ?_
  refine W.objInit hx hb hown (ht _ tw_272) (ht _ tw_265) (ht _ tw_266) rfl (by rw [hml]; exact hl.1) rfl dX7_init_1 (Nat.le_of_ble_eq_true rfl) (Nat.le_of_ble_eq_true rfl) ?_
  refine W.eq (g2 := F0 m 4 ls []) rfl ?_
  refine lv_aload_n hx hb dX7_init_4 rfl (lv_at hl 0 rfl) ?_
  refine lv_iload_n hx hb dX7_init_5 rfl (lv_at hl 1 rfl) ?_
  refine lv_iconst (v := 0) hx hb dX7_init_6 (by decide) ?_
  refine va_mmax hx hb (by rw [hml]; exact hl.1.symm) hown (ht _ tw_273) (ht _ tw_274) (ht _ tw_238) (ht _ tw_275) (Nat.le_of_ble_eq_true rfl) (Nat.le_of_ble_eq_true rfl) (Nat.le_of_ble_eq_true rfl) (Nat.le_of_ble_eq_true rfl) dX7_init_7 ?_
  refine lv_topi (fun x_1 ex_1 => ?_)
  obtain rfl : x_1 = 200 := ex_1.trans (by decide)
  refine va_newa (atype := .int) hx hb (ht _ tw_296) rfl hK hP hD hS hA (a0 := (200, .inl (fun _ => 0))) (fun _ => rfl) (by decide) (by decide : (200 : Int32).toNatClampNeg = 200) (by decide) (Nat.le_of_ble_eq_true rfl) (Nat.le_of_ble_eq_true rfl) dX7_init_10 (fun q_2 k_2 H_2 hK_2 hP_2 hD_2 hS_2 => ?_)
  have hK_2 : va_K (dC, dI) vwCl [(k_2, .int)] s := hK_2
  have hP_2 : va_P (dC, dI) vwCl [(h0, .inr (10, [.null, .int 0, .int 0, .int 0])), (q_2, .inl (k_2, 200, .inl (fun _ => 0)))] H_2 := hP_2
  have hD_2 : va_D A [(h0, .inr (10, [.null, .int 0, .int 0, .int 0])), (q_2, .inl (k_2, 200, .inl (fun _ => 0)))] := hD_2
  clear hP hD hS hK
  refine va_putF (D := (dC, dI)) (ci := 10) (v := .ref q_2) (ty := .array .int) (C := RX7) (T := TX7) (N := 4) hx hb ht inX7 tyX7 tyX7_ok nmX7 hown hK_2 hP_2 hD_2 hS_2 0 rfl rfl 0 (by decide) (ht _ tw_276) (fun _ h9 => h9) rfl hin rfl (by decide +kernel) rfl rfl (Nat.le_of_ble_eq_true rfl) dX7_init_12 (fun H_3 locs_3 hP_3 hD_3 hS_3 => ?_)
  have hP_3 : va_P (dC, dI) vwCl [(h0, .inr (10, [.ref q_2, .int 0, .int 0, .int 0])), (q_2, .inl (k_2, 200, .inl (fun _ => 0)))] H_3 := hP_3
  have hD_3 : va_D A [(h0, .inr (10, [.ref q_2, .int 0, .int 0, .int 0])), (q_2, .inl (k_2, 200, .inl (fun _ => 0)))] := hD_3
  clear hP_2 hD_2 hS_2
  have hP9 := hP_3.sub (ws' := [(h0, .inr (10, [.ref q_2, .int 0, .int 0, .int 0])), (q_2, .inl (k_2, 200, .inl (fun _ => 0)))]) [0, 1] rfl
  have hD9 := hD_3.sub (ws' := [(h0, .inr (10, [.ref q_2, .int 0, .int 0, .int 0])), (q_2, .inl (k_2, 200, .inl (fun _ => 0)))]) [0, 1] (by decide) rfl
  have hK9 := hK_2.sub (tys' := [(k_2, .int)]) [0] rfl
  refine W.widen (k := 1) (n := 200) (by decide) (by decide) ?_
  exact W.vret hx hb hr (fun t9 ht9 hW9 => ⟨⟨0, rfl, rfl, ⟨q_2, k_2, by rw [ht9]; exact hP9, va_K.moved hW9.alike hK9, hD9⟩⟩, hS_3.F ht9⟩) hS_3.2.2 dX7_init_15
set_option maxHeartbeats 4000000 in
set_option maxRecDepth 100000 in
theorem mt_X7_init_v2 (l : Launch) (dC : Nat → ClassId) (dI : Nat → Nat → Nat) (h0 : Nat) (sz : Nat) : Met l yX7_init (WS yX7_init cX7_init 2 none) ({ frames := 1, cells := 1, slots := 400, locals := 14 }) (va_Pc [.ref h0, .int 400] (fun U => U.heap.size = sz ∧ va_P (dC, dI) vwCl [(h0, .inr (10, [.null, .int 0, .int 0, .int 0]))] U.heap ∧ va_K (dC, dI) vwCl [] U ∧ va_D (fun _ => True) [(h0, .inr (10, [.null, .int 0, .int 0, .int 0]))])) (va_Qv (fun (u : Nat) => (u = 0)) (fun (_ : Nat) (t : State) => (∃ (q_2 : Nat), ∃ (k_2 : ClassId), va_P (dC, dI) vwCl [(h0, .inr (10, [.ref q_2, .int 0, .int 0, .int 0])), (q_2, .inl (k_2, 400, .inl (fun _ => 0)))] t.heap ∧ va_K (dC, dI) vwCl [(k_2, .int)] t ∧ va_D (va_A [(h0, .inr (10, [.null, .int 0, .int 0, .int 0]))] sz) [(h0, .inr (10, [.ref q_2, .int 0, .int 0, .int 0])), (q_2, .inl (k_2, 400, .inl (fun _ => 0)))])) (va_A [(h0, .inr (10, [.null, .int 0, .int 0, .int 0]))] sz)) 1 400 (va_A [(h0, .inr (10, [.null, .int 0, .int 0, .int 0]))] sz) := by
  refine Met.ofW (cc := cX7_init) (maxL := 2) (ret := none) (by decide) rfl ?_
  intro p e s m args below meth c s₁ B hml hv
  obtain ⟨rfl, hsz, hP, hK, hD0⟩ := hv
  have hx := B.exec
  have hb := B.bytes
  have hr := B.returns
  have hts := atoms_spec (ws := WS yX7_init cX7_init 2 none) B.pre
  have ht : ∀ w ∈ TW, w.before _ s = true := fun w h => hts w (List.mem_cons_of_mem _ h)
  have hown : s.vm.findClass "PatternWorkshop$Row" = some m.cls := findClass_of_methodNamed B.named
  have hlocks := B.notSynchronized
  have hin : meth.name = "<init>" := (name_of_methodNamed B.named B.method).1
  subst hsz
  have hD := hD0.self (sz := s.heap.size)
  generalize hAe : va_A [(h0, .inr (10, [.null, .int 0, .int 0, .int 0]))] s.heap.size = A at hD ⊢
  have hA : ∀ q : Nat, s.heap.size ≤ q → A q := fun q h => by rw [← hAe]; exact Or.inr h
  have hS : va_S A s.heap s.heap [] := va_S.rf
  have hP : va_P (dC, dI) vwCl [(h0, .inr (10, [.null, .int 0, .int 0, .int 0]))] s.heap := hP
  have hl := lv_entry ([.ref h0, .int 400]) (n := 2) (Nat.le_of_ble_eq_true rfl)
  rw [lg_entry_eq]
  generalize (lg_sl ([.ref h0, .int 400]) ++ List.replicate (2 - (lg_sl ([.ref h0, .int 400])).length) Slot.unset).toArray = ls at hl ⊢
  have hl : lv_has ls 2 [(0, .ref h0), (1, .int 400)] := hl
  clear hD0
  refine lv_aload_n hx hb dX7_init_0 rfl (lv_at hl 0 rfl) ?_
  refine W.objInit hx hb hown (ht _ tw_272) (ht _ tw_265) (ht _ tw_266) rfl (by rw [hml]; exact hl.1) rfl dX7_init_1 (Nat.le_of_ble_eq_true rfl) (Nat.le_of_ble_eq_true rfl) ?_
  refine W.eq (g2 := F0 m 4 ls []) rfl ?_
  refine lv_aload_n hx hb dX7_init_4 rfl (lv_at hl 0 rfl) ?_
  refine lv_iload_n hx hb dX7_init_5 rfl (lv_at hl 1 rfl) ?_
  refine lv_iconst (v := 0) hx hb dX7_init_6 (by decide) ?_
  refine va_mmax hx hb (by rw [hml]; exact hl.1.symm) hown (ht _ tw_273) (ht _ tw_274) (ht _ tw_238) (ht _ tw_275) (Nat.le_of_ble_eq_true rfl) (Nat.le_of_ble_eq_true rfl) (Nat.le_of_ble_eq_true rfl) (Nat.le_of_ble_eq_true rfl) dX7_init_7 ?_
  refine lv_topi (fun x_1 ex_1 => ?_)
  obtain rfl : x_1 = 400 := ex_1.trans (by decide)
  refine va_newa (atype := .int) hx hb (ht _ tw_296) rfl hK hP hD hS hA (a0 := (400, .inl (fun _ => 0))) (fun _ => rfl) (by decide) (by decide : (400 : Int32).toNatClampNeg = 400) (by decide) (Nat.le_of_ble_eq_true rfl) (Nat.le_of_ble_eq_true rfl) dX7_init_10 (fun q_2 k_2 H_2 hK_2 hP_2 hD_2 hS_2 => ?_)
  have hK_2 : va_K (dC, dI) vwCl [(k_2, .int)] s := hK_2
  have hP_2 : va_P (dC, dI) vwCl [(h0, .inr (10, [.null, .int 0, .int 0, .int 0])), (q_2, .inl (k_2, 400, .inl (fun _ => 0)))] H_2 := hP_2
  have hD_2 : va_D A [(h0, .inr (10, [.null, .int 0, .int 0, .int 0])), (q_2, .inl (k_2, 400, .inl (fun _ => 0)))] := hD_2
  clear hP hD hS hK
  refine va_putF (D := (dC, dI)) (ci := 10) (v := .ref q_2) (ty := .array .int) (C := RX7) (T := TX7) (N := 4) hx hb ht inX7 tyX7 tyX7_ok nmX7 hown hK_2 hP_2 hD_2 hS_2 0 rfl rfl 0 (by decide) (ht _ tw_276) (fun _ h9 => h9) rfl hin rfl (by decide +kernel) rfl rfl (Nat.le_of_ble_eq_true rfl) dX7_init_12 (fun H_3 locs_3 hP_3 hD_3 hS_3 => ?_)
  have hP_3 : va_P (dC, dI) vwCl [(h0, .inr (10, [.ref q_2, .int 0, .int 0, .int 0])), (q_2, .inl (k_2, 400, .inl (fun _ => 0)))] H_3 := hP_3
  have hD_3 : va_D A [(h0, .inr (10, [.ref q_2, .int 0, .int 0, .int 0])), (q_2, .inl (k_2, 400, .inl (fun _ => 0)))] := hD_3
  clear hP_2 hD_2 hS_2
  have hP9 := hP_3.sub (ws' := [(h0, .inr (10, [.ref q_2, .int 0, .int 0, .int 0])), (q_2, .inl (k_2, 400, .inl (fun _ => 0)))]) [0, 1] rfl
  have hD9 := hD_3.sub (ws' := [(h0, .inr (10, [.ref q_2, .int 0, .int 0, .int 0])), (q_2, .inl (k_2, 400, .inl (fun _ => 0)))]) [0, 1] (by decide) rfl
  have hK9 := hK_2.sub (tys' := [(k_2, .int)]) [0] rfl
  refine W.widen (k := 1) (n := 400) (by decide) (by decide) ?_
  exact W.vret hx hb hr (fun t9 ht9 hW9 => ⟨⟨0, rfl, rfl, ⟨q_2, k_2, by rw [ht9]; exact hP9, va_K.moved hW9.alike hK9, hD9⟩⟩, hS_3.F ht9⟩) hS_3.2.2 dX7_init_15
set_option maxHeartbeats 4000000 in
set_option maxRecDepth 100000 in
theorem mt_X7_init_v3 (l : Launch) (dC : Nat → ClassId) (dI : Nat → Nat → Nat) (h0 : Nat) (sz : Nat) : Met l yX7_init (WS yX7_init cX7_init 2 none) ({ frames := 1, cells := 1, slots := 20, locals := 14 }) (va_Pc [.ref h0, .int 20] (fun U => U.heap.size = sz ∧ va_P (dC, dI) vwCl [(h0, .inr (10, [.null, .int 0, .int 0, .int 0]))] U.heap ∧ va_K (dC, dI) vwCl [] U ∧ va_D (fun _ => True) [(h0, .inr (10, [.null, .int 0, .int 0, .int 0]))])) (va_Qv (fun (u : Nat) => (u = 0)) (fun (_ : Nat) (t : State) => (∃ (q_2 : Nat), ∃ (k_2 : ClassId), va_P (dC, dI) vwCl [(h0, .inr (10, [.ref q_2, .int 0, .int 0, .int 0])), (q_2, .inl (k_2, 20, .inl (fun _ => 0)))] t.heap ∧ va_K (dC, dI) vwCl [(k_2, .int)] t ∧ va_D (va_A [(h0, .inr (10, [.null, .int 0, .int 0, .int 0]))] sz) [(h0, .inr (10, [.ref q_2, .int 0, .int 0, .int 0])), (q_2, .inl (k_2, 20, .inl (fun _ => 0)))])) (va_A [(h0, .inr (10, [.null, .int 0, .int 0, .int 0]))] sz)) 1 20 (va_A [(h0, .inr (10, [.null, .int 0, .int 0, .int 0]))] sz) := by
  refine Met.ofW (cc := cX7_init) (maxL := 2) (ret := none) (by decide) rfl ?_
  intro p e s m args below meth c s₁ B hml hv
  obtain ⟨rfl, hsz, hP, hK, hD0⟩ := hv
  have hx := B.exec
  have hb := B.bytes
  have hr := B.returns
  have hts := atoms_spec (ws := WS yX7_init cX7_init 2 none) B.pre
  have ht : ∀ w ∈ TW, w.before _ s = true := fun w h => hts w (List.mem_cons_of_mem _ h)
  have hown : s.vm.findClass "PatternWorkshop$Row" = some m.cls := findClass_of_methodNamed B.named
  have hlocks := B.notSynchronized
  have hin : meth.name = "<init>" := (name_of_methodNamed B.named B.method).1
  subst hsz
  have hD := hD0.self (sz := s.heap.size)
  generalize hAe : va_A [(h0, .inr (10, [.null, .int 0, .int 0, .int 0]))] s.heap.size = A at hD ⊢
  have hA : ∀ q : Nat, s.heap.size ≤ q → A q := fun q h => by rw [← hAe]; exact Or.inr h
  have hS : va_S A s.heap s.heap [] := va_S.rf
  have hP : va_P (dC, dI) vwCl [(h0, .inr (10, [.null, .int 0, .int 0, .int 0]))] s.heap := hP
  have hl := lv_entry ([.ref h0, .int 20]) (n := 2) (Nat.le_of_ble_eq_true rfl)
  rw [lg_entry_eq]
  generalize (lg_sl ([.ref h0, .int 20]) ++ List.replicate (2 - (lg_sl ([.ref h0, .int 20])).length) Slot.unset).toArray = ls at hl ⊢
  have hl : lv_has ls 2 [(0, .ref h0), (1, .int 20)] := hl
  clear hD0
  refine lv_aload_n hx hb dX7_init_0 rfl (lv_at hl 0 rfl) ?_
  refine W.objInit hx hb hown (ht _ tw_272) (ht _ tw_265) (ht _ tw_266) rfl (by rw [hml]; exact hl.1) rfl dX7_init_1 (Nat.le_of_ble_eq_true rfl) (Nat.le_of_ble_eq_true rfl) ?_
  refine W.eq (g2 := F0 m 4 ls []) rfl ?_
  refine lv_aload_n hx hb dX7_init_4 rfl (lv_at hl 0 rfl) ?_
  refine lv_iload_n hx hb dX7_init_5 rfl (lv_at hl 1 rfl) ?_
  refine lv_iconst (v := 0) hx hb dX7_init_6 (by decide) ?_
  refine va_mmax hx hb (by rw [hml]; exact hl.1.symm) hown (ht _ tw_273) (ht _ tw_274) (ht _ tw_238) (ht _ tw_275) (Nat.le_of_ble_eq_true rfl) (Nat.le_of_ble_eq_true rfl) (Nat.le_of_ble_eq_true rfl) (Nat.le_of_ble_eq_true rfl) dX7_init_7 ?_
  refine lv_topi (fun x_1 ex_1 => ?_)
  obtain rfl : x_1 = 20 := ex_1.trans (by decide)
  refine va_newa (atype := .int) hx hb (ht _ tw_296) rfl hK hP hD hS hA (a0 := (20, .inl (fun _ => 0))) (fun _ => rfl) (by decide) (by decide : (20 : Int32).toNatClampNeg = 20) (by decide) (Nat.le_of_ble_eq_true rfl) (Nat.le_of_ble_eq_true rfl) dX7_init_10 (fun q_2 k_2 H_2 hK_2 hP_2 hD_2 hS_2 => ?_)
  have hK_2 : va_K (dC, dI) vwCl [(k_2, .int)] s := hK_2
  have hP_2 : va_P (dC, dI) vwCl [(h0, .inr (10, [.null, .int 0, .int 0, .int 0])), (q_2, .inl (k_2, 20, .inl (fun _ => 0)))] H_2 := hP_2
  have hD_2 : va_D A [(h0, .inr (10, [.null, .int 0, .int 0, .int 0])), (q_2, .inl (k_2, 20, .inl (fun _ => 0)))] := hD_2
  clear hP hD hS hK
  refine va_putF (D := (dC, dI)) (ci := 10) (v := .ref q_2) (ty := .array .int) (C := RX7) (T := TX7) (N := 4) hx hb ht inX7 tyX7 tyX7_ok nmX7 hown hK_2 hP_2 hD_2 hS_2 0 rfl rfl 0 (by decide) (ht _ tw_276) (fun _ h9 => h9) rfl hin rfl (by decide +kernel) rfl rfl (Nat.le_of_ble_eq_true rfl) dX7_init_12 (fun H_3 locs_3 hP_3 hD_3 hS_3 => ?_)
  have hP_3 : va_P (dC, dI) vwCl [(h0, .inr (10, [.ref q_2, .int 0, .int 0, .int 0])), (q_2, .inl (k_2, 20, .inl (fun _ => 0)))] H_3 := hP_3
  have hD_3 : va_D A [(h0, .inr (10, [.ref q_2, .int 0, .int 0, .int 0])), (q_2, .inl (k_2, 20, .inl (fun _ => 0)))] := hD_3
  clear hP_2 hD_2 hS_2
  have hP9 := hP_3.sub (ws' := [(h0, .inr (10, [.ref q_2, .int 0, .int 0, .int 0])), (q_2, .inl (k_2, 20, .inl (fun _ => 0)))]) [0, 1] rfl
  have hD9 := hD_3.sub (ws' := [(h0, .inr (10, [.ref q_2, .int 0, .int 0, .int 0])), (q_2, .inl (k_2, 20, .inl (fun _ => 0)))]) [0, 1] (by decide) rfl
  have hK9 := hK_2.sub (tys' := [(k_2, .int)]) [0] rfl
  refine W.widen (k := 1) (n := 20) (by decide) (by decide) ?_
  exact W.vret hx hb hr (fun t9 ht9 hW9 => ⟨⟨0, rfl, rfl, ⟨q_2, k_2, by rw [ht9]; exact hP9, va_K.moved hW9.alike hK9, hD9⟩⟩, hS_3.F ht9⟩) hS_3.2.2 dX7_init_15
set_option maxHeartbeats 4000000 in
set_option maxRecDepth 100000 in
theorem mt_X7_init_v4 (l : Launch) (dC : Nat → ClassId) (dI : Nat → Nat → Nat) (h0 : Nat) (sz : Nat) : Met l yX7_init (WS yX7_init cX7_init 2 none) ({ frames := 1, cells := 1, slots := 0, locals := 14 }) (va_Pc [.ref h0, .int 0] (fun U => U.heap.size = sz ∧ va_P (dC, dI) vwCl [(h0, .inr (10, [.null, .int 0, .int 0, .int 0]))] U.heap ∧ va_K (dC, dI) vwCl [] U ∧ va_D (fun _ => True) [(h0, .inr (10, [.null, .int 0, .int 0, .int 0]))])) (va_Qv (fun (u : Nat) => (u = 0)) (fun (_ : Nat) (t : State) => (∃ (q_2 : Nat), ∃ (k_2 : ClassId), va_P (dC, dI) vwCl [(h0, .inr (10, [.ref q_2, .int 0, .int 0, .int 0])), (q_2, .inl (k_2, 0, .inl (fun _ => 0)))] t.heap ∧ va_K (dC, dI) vwCl [(k_2, .int)] t ∧ va_D (va_A [(h0, .inr (10, [.null, .int 0, .int 0, .int 0]))] sz) [(h0, .inr (10, [.ref q_2, .int 0, .int 0, .int 0])), (q_2, .inl (k_2, 0, .inl (fun _ => 0)))])) (va_A [(h0, .inr (10, [.null, .int 0, .int 0, .int 0]))] sz)) 1 0 (va_A [(h0, .inr (10, [.null, .int 0, .int 0, .int 0]))] sz) := by
  refine Met.ofW (cc := cX7_init) (maxL := 2) (ret := none) (by decide) rfl ?_
  intro p e s m args below meth c s₁ B hml hv
  obtain ⟨rfl, hsz, hP, hK, hD0⟩ := hv
  have hx := B.exec
  have hb := B.bytes
  have hr := B.returns
  have hts := atoms_spec (ws := WS yX7_init cX7_init 2 none) B.pre
  have ht : ∀ w ∈ TW, w.before _ s = true := fun w h => hts w (List.mem_cons_of_mem _ h)
  have hown : s.vm.findClass "PatternWorkshop$Row" = some m.cls := findClass_of_methodNamed B.named
  have hlocks := B.notSynchronized
  have hin : meth.name = "<init>" := (name_of_methodNamed B.named B.method).1
  subst hsz
  have hD := hD0.self (sz := s.heap.size)
  generalize hAe : va_A [(h0, .inr (10, [.null, .int 0, .int 0, .int 0]))] s.heap.size = A at hD ⊢
  have hA : ∀ q : Nat, s.heap.size ≤ q → A q := fun q h => by rw [← hAe]; exact Or.inr h
  have hS : va_S A s.heap s.heap [] := va_S.rf
  have hP : va_P (dC, dI) vwCl [(h0, .inr (10, [.null, .int 0, .int 0, .int 0]))] s.heap := hP
  have hl := lv_entry ([.ref h0, .int 0]) (n := 2) (Nat.le_of_ble_eq_true rfl)
  rw [lg_entry_eq]
  generalize (lg_sl ([.ref h0, .int 0]) ++ List.replicate (2 - (lg_sl ([.ref h0, .int 0])).length) Slot.unset).toArray = ls at hl ⊢
  have hl : lv_has ls 2 [(0, .ref h0), (1, .int 0)] := hl
  clear hD0
  refine lv_aload_n hx hb dX7_init_0 rfl (lv_at hl 0 rfl) ?_
  refine W.objInit hx hb hown (ht _ tw_272) (ht _ tw_265) (ht _ tw_266) rfl (by rw [hml]; exact hl.1) rfl dX7_init_1 (Nat.le_of_ble_eq_true rfl) (Nat.le_of_ble_eq_true rfl) ?_
  refine W.eq (g2 := F0 m 4 ls []) rfl ?_
  refine lv_aload_n hx hb dX7_init_4 rfl (lv_at hl 0 rfl) ?_
  refine lv_iload_n hx hb dX7_init_5 rfl (lv_at hl 1 rfl) ?_
  refine lv_iconst (v := 0) hx hb dX7_init_6 (by decide) ?_
  refine va_mmax hx hb (by rw [hml]; exact hl.1.symm) hown (ht _ tw_273) (ht _ tw_274) (ht _ tw_238) (ht _ tw_275) (Nat.le_of_ble_eq_true rfl) (Nat.le_of_ble_eq_true rfl) (Nat.le_of_ble_eq_true rfl) (Nat.le_of_ble_eq_true rfl) dX7_init_7 ?_
  refine lv_topi (fun x_1 ex_1 => ?_)
  obtain rfl : x_1 = 0 := ex_1.trans (by decide)
  refine va_newa (atype := .int) hx hb (ht _ tw_296) rfl hK hP hD hS hA (a0 := (0, .inl (fun _ => 0))) (fun _ => rfl) (by decide) (by decide : (0 : Int32).toNatClampNeg = 0) (by decide) (Nat.le_of_ble_eq_true rfl) (Nat.le_of_ble_eq_true rfl) dX7_init_10 (fun q_2 k_2 H_2 hK_2 hP_2 hD_2 hS_2 => ?_)
  have hK_2 : va_K (dC, dI) vwCl [(k_2, .int)] s := hK_2
  have hP_2 : va_P (dC, dI) vwCl [(h0, .inr (10, [.null, .int 0, .int 0, .int 0])), (q_2, .inl (k_2, 0, .inl (fun _ => 0)))] H_2 := hP_2
  have hD_2 : va_D A [(h0, .inr (10, [.null, .int 0, .int 0, .int 0])), (q_2, .inl (k_2, 0, .inl (fun _ => 0)))] := hD_2
  clear hP hD hS hK
  refine va_putF (D := (dC, dI)) (ci := 10) (v := .ref q_2) (ty := .array .int) (C := RX7) (T := TX7) (N := 4) hx hb ht inX7 tyX7 tyX7_ok nmX7 hown hK_2 hP_2 hD_2 hS_2 0 rfl rfl 0 (by decide) (ht _ tw_276) (fun _ h9 => h9) rfl hin rfl (by decide +kernel) rfl rfl (Nat.le_of_ble_eq_true rfl) dX7_init_12 (fun H_3 locs_3 hP_3 hD_3 hS_3 => ?_)
  have hP_3 : va_P (dC, dI) vwCl [(h0, .inr (10, [.ref q_2, .int 0, .int 0, .int 0])), (q_2, .inl (k_2, 0, .inl (fun _ => 0)))] H_3 := hP_3
  have hD_3 : va_D A [(h0, .inr (10, [.ref q_2, .int 0, .int 0, .int 0])), (q_2, .inl (k_2, 0, .inl (fun _ => 0)))] := hD_3
  clear hP_2 hD_2 hS_2
  have hP9 := hP_3.sub (ws' := [(h0, .inr (10, [.ref q_2, .int 0, .int 0, .int 0])), (q_2, .inl (k_2, 0, .inl (fun _ => 0)))]) [0, 1] rfl
  have hD9 := hD_3.sub (ws' := [(h0, .inr (10, [.ref q_2, .int 0, .int 0, .int 0])), (q_2, .inl (k_2, 0, .inl (fun _ => 0)))]) [0, 1] (by decide) rfl
  have hK9 := hK_2.sub (tys' := [(k_2, .int)]) [0] rfl
  refine W.widen (k := 1) (n := 0) (by decide) (by decide) ?_
  exact W.vret hx hb hr (fun t9 ht9 hW9 => ⟨⟨0, rfl, rfl, ⟨q_2, k_2, by rw [ht9]; exact hP9, va_K.moved hW9.alike hK9, hD9⟩⟩, hS_3.F ht9⟩) hS_3.2.2 dX7_init_15
set_option maxHeartbeats 4000000 in
set_option maxRecDepth 100000 in
theorem mt_X10_init (l : Launch) (dC : Nat → ClassId) (dI : Nat → Nat → Nat) (h0 : Nat) (sz : Nat) : Met l yX10_init (WS yX10_init cX10_init 4 none) ({ frames := 1, cells := 16, slots := 4608, locals := 14 }) (va_Pc [.ref h0, .int 256, .int 512] (fun U => U.heap.size = sz ∧ va_P (dC, dI) vwCl [(h0, .inr (13, [.int 0, .int 0, .int 0, .int 0, .null, .null, .null, .null, .null, .null, .null, .null, .null, .null, .null, .null, .null, .null, .null, .null]))] U.heap ∧ va_K (dC, dI) vwCl [] U ∧ va_D (fun _ => True) [(h0, .inr (13, [.int 0, .int 0, .int 0, .int 0, .null, .null, .null, .null, .null, .null, .null, .null, .null, .null, .null, .null, .null, .null, .null, .null]))])) (va_Qv (fun (u : Nat) => (u = 0)) (fun (_ : Nat) (t : State) => (∃ (q_3 : Nat), ∃ (q_5 : Nat), ∃ (q_7 : Nat), ∃ (q_9 : Nat), ∃ (q_11 : Nat), ∃ (q_13 : Nat), ∃ (q_15 : Nat), ∃ (q_17 : Nat), ∃ (q_19 : Nat), ∃ (q_21 : Nat), ∃ (q_23 : Nat), ∃ (q_25 : Nat), ∃ (q_27 : Nat), ∃ (q_29 : Nat), ∃ (q_32 : Nat), ∃ (q_35 : Nat), ∃ (k_3 : ClassId), ∃ (k_5 : ClassId), ∃ (k_7 : ClassId), ∃ (k_9 : ClassId), ∃ (k_11 : ClassId), ∃ (k_13 : ClassId), ∃ (k_15 : ClassId), ∃ (k_17 : ClassId), ∃ (k_19 : ClassId), ∃ (k_21 : ClassId), ∃ (k_23 : ClassId), ∃ (k_25 : ClassId), ∃ (k_27 : ClassId), ∃ (k_29 : ClassId), ∃ (k_32 : ClassId), ∃ (k_35 : ClassId), va_P (dC, dI) vwCl [(h0, .inr (13, [.int 0, .int 0, .int 0, .int 0, .ref q_3, .ref q_5, .ref q_7, .ref q_9, .ref q_11, .ref q_13, .ref q_15, .ref q_17, .ref q_19, .ref q_21, .ref q_23, .ref q_25, .ref q_27, .ref q_29, .ref q_32, .ref q_35])), (q_3, .inl (k_3, 256, .inl (fun _ => 0))), (q_5, .inl (k_5, 256, .inl (fun _ => 0))), (q_7, .inl (k_7, 256, .inl (fun _ => 0))), (q_9, .inl (k_9, 256, .inl (fun _ => 0))), (q_11, .inl (k_11, 256, .inl (fun _ => 0))), (q_13, .inl (k_13, 256, .inl (fun _ => 0))), (q_15, .inl (k_15, 256, .inl (fun _ => 0))), (q_17, .inl (k_17, 256, .inl (fun _ => 0))), (q_19, .inl (k_19, 256, .inl (fun _ => 0))), (q_21, .inl (k_21, 256, .inl (fun _ => 0))), (q_23, .inl (k_23, 256, .inl (fun _ => 0))), (q_25, .inl (k_25, 256, .inl (fun _ => 0))), (q_27, .inl (k_27, 256, .inl (fun _ => 0))), (q_29, .inl (k_29, 256, .inl (fun _ => 0))), (q_32, .inl (k_32, 512, .inl (fun _ => 0))), (q_35, .inl (k_35, 512, .inl (fun _ => 0)))] t.heap ∧ va_K (dC, dI) vwCl [(k_3, .int), (k_5, .int), (k_7, .int), (k_9, .int), (k_11, .int), (k_13, .int), (k_15, .int), (k_17, .int), (k_19, .int), (k_21, .int), (k_23, .int), (k_25, .boolean), (k_27, .boolean), (k_29, .boolean), (k_32, .int), (k_35, .int)] t ∧ va_D (va_A [(h0, .inr (13, [.int 0, .int 0, .int 0, .int 0, .null, .null, .null, .null, .null, .null, .null, .null, .null, .null, .null, .null, .null, .null, .null, .null]))] sz) [(h0, .inr (13, [.int 0, .int 0, .int 0, .int 0, .ref q_3, .ref q_5, .ref q_7, .ref q_9, .ref q_11, .ref q_13, .ref q_15, .ref q_17, .ref q_19, .ref q_21, .ref q_23, .ref q_25, .ref q_27, .ref q_29, .ref q_32, .ref q_35])), (q_3, .inl (k_3, 256, .inl (fun _ => 0))), (q_5, .inl (k_5, 256, .inl (fun _ => 0))), (q_7, .inl (k_7, 256, .inl (fun _ => 0))), (q_9, .inl (k_9, 256, .inl (fun _ => 0))), (q_11, .inl (k_11, 256, .inl (fun _ => 0))), (q_13, .inl (k_13, 256, .inl (fun _ => 0))), (q_15, .inl (k_15, 256, .inl (fun _ => 0))), (q_17, .inl (k_17, 256, .inl (fun _ => 0))), (q_19, .inl (k_19, 256, .inl (fun _ => 0))), (q_21, .inl (k_21, 256, .inl (fun _ => 0))), (q_23, .inl (k_23, 256, .inl (fun _ => 0))), (q_25, .inl (k_25, 256, .inl (fun _ => 0))), (q_27, .inl (k_27, 256, .inl (fun _ => 0))), (q_29, .inl (k_29, 256, .inl (fun _ => 0))), (q_32, .inl (k_32, 512, .inl (fun _ => 0))), (q_35, .inl (k_35, 512, .inl (fun _ => 0)))])) (va_A [(h0, .inr (13, [.int 0, .int 0, .int 0, .int 0, .null, .null, .null, .null, .null, .null, .null, .null, .null, .null, .null, .null, .null, .null, .null, .null]))] sz)) 16 4608 (va_A [(h0, .inr (13, [.int 0, .int 0, .int 0, .int 0, .null, .null, .null, .null, .null, .null, .null, .null, .null, .null, .null, .null, .null, .null, .null, .null]))] sz) := by
  refine Met.ofW (cc := cX10_init) (maxL := 4) (ret := none) (by decide) rfl ?_
  intro p e s m args below meth c s₁ B hml hv
  obtain ⟨rfl, hsz, hP, hK, hD0⟩ := hv
  have hx := B.exec
  have hb := B.bytes
  have hr := B.returns
  have hts := atoms_spec (ws := WS yX10_init cX10_init 4 none) B.pre
  have ht : ∀ w ∈ TW, w.before _ s = true := fun w h => hts w (List.mem_cons_of_mem _ h)
  have hown : s.vm.findClass "PatternWorkshop$Tree" = some m.cls := findClass_of_methodNamed B.named
  have hlocks := B.notSynchronized
  have hin : meth.name = "<init>" := (name_of_methodNamed B.named B.method).1
  subst hsz
  have hD := hD0.self (sz := s.heap.size)
  generalize hAe : va_A [(h0, .inr (13, [.int 0, .int 0, .int 0, .int 0, .null, .null, .null, .null, .null, .null, .null, .null, .null, .null, .null, .null, .null, .null, .null, .null]))] s.heap.size = A at hD ⊢
  have hA : ∀ q : Nat, s.heap.size ≤ q → A q := fun q h => by rw [← hAe]; exact Or.inr h
  have hS : va_S A s.heap s.heap [] := va_S.rf
  have hP : va_P (dC, dI) vwCl [(h0, .inr (13, [.int 0, .int 0, .int 0, .int 0, .null, .null, .null, .null, .null, .null, .null, .null, .null, .null, .null, .null, .null, .null, .null, .null]))] s.heap := hP
  have hl := lv_entry ([.ref h0, .int 256, .int 512]) (n := 4) (Nat.le_of_ble_eq_true rfl)
  rw [lg_entry_eq]
  generalize (lg_sl ([.ref h0, .int 256, .int 512]) ++ List.replicate (4 - (lg_sl ([.ref h0, .int 256, .int 512])).length) Slot.unset).toArray = ls at hl ⊢
  have hl : lv_has ls 4 [(0, .ref h0), (1, .int 256), (2, .int 512)] := hl
  clear hD0
  refine lv_aload_n hx hb dX10_init_0 rfl (lv_at hl 0 rfl) ?_
  refine W.objInit hx hb hown (ht _ tw_315) (ht _ tw_265) (ht _ tw_266) rfl (by rw [hml]; exact hl.1) rfl dX10_init_1 (Nat.le_of_ble_eq_true rfl) (Nat.le_of_ble_eq_true rfl) ?_
  refine W.eq (g2 := F0 m 4 ls []) rfl ?_
  refine lv_iload_n hx hb dX10_init_4 rfl (lv_at hl 1 rfl) ?_
  refine lv_iconst (v := 0) hx hb dX10_init_5 (by decide) ?_
  refine va_mmax hx hb (by rw [hml]; exact hl.1.symm) hown (ht _ tw_316) (ht _ tw_274) (ht _ tw_238) (ht _ tw_275) (Nat.le_of_ble_eq_true rfl) (Nat.le_of_ble_eq_true rfl) (Nat.le_of_ble_eq_true rfl) (Nat.le_of_ble_eq_true rfl) dX10_init_6 ?_
  refine lv_topi (fun x_1 ex_1 => ?_)
  obtain rfl : x_1 = 256 := ex_1.trans (by decide)
  refine lv_istore_n (lv' := [(3, .int 256), (0, .ref h0), (1, .int 256), (2, .int 512)]) hx hb dX10_init_9 rfl hl (by decide) rfl (fun ls_2 hl_2 => ?_)
  clear hl
  refine lv_aload_n hx hb dX10_init_10 rfl (lv_at hl_2 1 rfl) ?_
  refine lv_iload_n hx hb dX10_init_11 rfl (lv_at hl_2 0 rfl) ?_
  refine va_newa (atype := .int) hx hb (ht _ tw_296) rfl hK hP hD hS hA (a0 := (256, .inl (fun _ => 0))) (fun _ => rfl) (by decide) (by decide : (256 : Int32).toNatClampNeg = 256) (by decide) (Nat.le_of_ble_eq_true rfl) (Nat.le_of_ble_eq_true rfl) dX10_init_12 (fun q_3 k_3 H_3 hK_3 hP_3 hD_3 hS_3 => ?_)
  have hK_3 : va_K (dC, dI) vwCl [(k_3, .int)] s := hK_3
  have hP_3 : va_P (dC, dI) vwCl [(h0, .inr (13, [.int 0, .int 0, .int 0, .int 0, .null, .null, .null, .null, .null, .null, .null, .null, .null, .null, .null, .null, .null, .null, .null, .null])), (q_3, .inl (k_3, 256, .inl (fun _ => 0)))] H_3 := hP_3
  have hD_3 : va_D A [(h0, .inr (13, [.int 0, .int 0, .int 0, .int 0, .null, .null, .null, .null, .null, .null, .null, .null, .null, .null, .null, .null, .null, .null, .null, .null])), (q_3, .inl (k_3, 256, .inl (fun _ => 0)))] := hD_3
  clear hP hD hS hK
  refine va_putF (D := (dC, dI)) (ci := 13) (v := .ref q_3) (ty := .array .int) (C := RX10) (T := TX10) (N := 20) hx hb ht inX10 tyX10 tyX10_ok nmX10 hown hK_3 hP_3 hD_3 hS_3 0 rfl rfl 4 (by decide) (ht _ tw_327) (fun _ h9 => h9) rfl hin rfl (by decide +kernel) rfl rfl (Nat.le_of_ble_eq_true rfl) dX10_init_14 (fun H_4 locs_4 hP_4 hD_4 hS_4 => ?_)
  have hP_4 : va_P (dC, dI) vwCl [(h0, .inr (13, [.int 0, .int 0, .int 0, .int 0, .ref q_3, .null, .null, .null, .null, .null, .null, .null, .null, .null, .null, .null, .null, .null, .null, .null])), (q_3, .inl (k_3, 256, .inl (fun _ => 0)))] H_4 := hP_4
  have hD_4 : va_D A [(h0, .inr (13, [.int 0, .int 0, .int 0, .int 0, .ref q_3, .null, .null, .null, .null, .null, .null, .null, .null, .null, .null, .null, .null, .null, .null, .null])), (q_3, .inl (k_3, 256, .inl (fun _ => 0)))] := hD_4
  clear hP_3 hD_3 hS_3
  refine lv_aload_n hx hb dX10_init_17 rfl (lv_at hl_2 1 rfl) ?_
  refine lv_iload_n hx hb dX10_init_18 rfl (lv_at hl_2 0 rfl) ?_
  refine va_newa (atype := .int) hx hb (ht _ tw_296) rfl hK_3 hP_4 hD_4 hS_4 hA (a0 := (256, .inl (fun _ => 0))) (fun _ => rfl) (by decide) (by decide : (256 : Int32).toNatClampNeg = 256) (by decide) (Nat.le_of_ble_eq_true rfl) (Nat.le_of_ble_eq_true rfl) dX10_init_19 (fun q_5 k_5 H_5 hK_5 hP_5 hD_5 hS_5 => ?_)
  have hK_5 : va_K (dC, dI) vwCl [(k_3, .int), (k_5, .int)] s := hK_5
  have hP_5 : va_P (dC, dI) vwCl [(h0, .inr (13, [.int 0, .int 0, .int 0, .int 0, .ref q_3, .null, .null, .null, .null, .null, .null, .null, .null, .null, .null, .null, .null, .null, .null, .null])), (q_3, .inl (k_3, 256, .inl (fun _ => 0))), (q_5, .inl (k_5, 256, .inl (fun _ => 0)))] H_5 := hP_5
  have hD_5 : va_D A [(h0, .inr (13, [.int 0, .int 0, .int 0, .int 0, .ref q_3, .null, .null, .null, .null, .null, .null, .null, .null, .null, .null, .null, .null, .null, .null, .null])), (q_3, .inl (k_3, 256, .inl (fun _ => 0))), (q_5, .inl (k_5, 256, .inl (fun _ => 0)))] := hD_5
  clear hP_4 hD_4 hS_4 hK_3
  refine va_putF (D := (dC, dI)) (ci := 13) (v := .ref q_5) (ty := .array .int) (C := RX10) (T := TX10) (N := 20) hx hb ht inX10 tyX10 tyX10_ok nmX10 hown hK_5 hP_5 hD_5 hS_5 0 rfl rfl 5 (by decide) (ht _ tw_328) (fun _ h9 => h9) rfl hin rfl (by decide +kernel) rfl rfl (Nat.le_of_ble_eq_true rfl) dX10_init_21 (fun H_6 locs_6 hP_6 hD_6 hS_6 => ?_)
  have hP_6 : va_P (dC, dI) vwCl [(h0, .inr (13, [.int 0, .int 0, .int 0, .int 0, .ref q_3, .ref q_5, .null, .null, .null, .null, .null, .null, .null, .null, .null, .null, .null, .null, .null, .null])), (q_3, .inl (k_3, 256, .inl (fun _ => 0))), (q_5, .inl (k_5, 256, .inl (fun _ => 0)))] H_6 := hP_6
  have hD_6 : va_D A [(h0, .inr (13, [.int 0, .int 0, .int 0, .int 0, .ref q_3, .ref q_5, .null, .null, .null, .null, .null, .null, .null, .null, .null, .null, .null, .null, .null, .null])), (q_3, .inl (k_3, 256, .inl (fun _ => 0))), (q_5, .inl (k_5, 256, .inl (fun _ => 0)))] := hD_6
  clear hP_5 hD_5 hS_5
  refine lv_aload_n hx hb dX10_init_24 rfl (lv_at hl_2 1 rfl) ?_
  refine lv_iload_n hx hb dX10_init_25 rfl (lv_at hl_2 0 rfl) ?_
  refine va_newa (atype := .int) hx hb (ht _ tw_296) rfl hK_5 hP_6 hD_6 hS_6 hA (a0 := (256, .inl (fun _ => 0))) (fun _ => rfl) (by decide) (by decide : (256 : Int32).toNatClampNeg = 256) (by decide) (Nat.le_of_ble_eq_true rfl) (Nat.le_of_ble_eq_true rfl) dX10_init_26 (fun q_7 k_7 H_7 hK_7 hP_7 hD_7 hS_7 => ?_)
  have hK_7 : va_K (dC, dI) vwCl [(k_3, .int), (k_5, .int), (k_7, .int)] s := hK_7
  have hP_7 : va_P (dC, dI) vwCl [(h0, .inr (13, [.int 0, .int 0, .int 0, .int 0, .ref q_3, .ref q_5, .null, .null, .null, .null, .null, .null, .null, .null, .null, .null, .null, .null, .null, .null])), (q_3, .inl (k_3, 256, .inl (fun _ => 0))), (q_5, .inl (k_5, 256, .inl (fun _ => 0))), (q_7, .inl (k_7, 256, .inl (fun _ => 0)))] H_7 := hP_7
  have hD_7 : va_D A [(h0, .inr (13, [.int 0, .int 0, .int 0, .int 0, .ref q_3, .ref q_5, .null, .null, .null, .null, .null, .null, .null, .null, .null, .null, .null, .null, .null, .null])), (q_3, .inl (k_3, 256, .inl (fun _ => 0))), (q_5, .inl (k_5, 256, .inl (fun _ => 0))), (q_7, .inl (k_7, 256, .inl (fun _ => 0)))] := hD_7
  clear hP_6 hD_6 hS_6 hK_5
  refine va_putF (D := (dC, dI)) (ci := 13) (v := .ref q_7) (ty := .array .int) (C := RX10) (T := TX10) (N := 20) hx hb ht inX10 tyX10 tyX10_ok nmX10 hown hK_7 hP_7 hD_7 hS_7 0 rfl rfl 6 (by decide) (ht _ tw_329) (fun _ h9 => h9) rfl hin rfl (by decide +kernel) rfl rfl (Nat.le_of_ble_eq_true rfl) dX10_init_28 (fun H_8 locs_8 hP_8 hD_8 hS_8 => ?_)
  have hP_8 : va_P (dC, dI) vwCl [(h0, .inr (13, [.int 0, .int 0, .int 0, .int 0, .ref q_3, .ref q_5, .ref q_7, .null, .null, .null, .null, .null, .null, .null, .null, .null, .null, .null, .null, .null])), (q_3, .inl (k_3, 256, .inl (fun _ => 0))), (q_5, .inl (k_5, 256, .inl (fun _ => 0))), (q_7, .inl (k_7, 256, .inl (fun _ => 0)))] H_8 := hP_8
  have hD_8 : va_D A [(h0, .inr (13, [.int 0, .int 0, .int 0, .int 0, .ref q_3, .ref q_5, .ref q_7, .null, .null, .null, .null, .null, .null, .null, .null, .null, .null, .null, .null, .null])), (q_3, .inl (k_3, 256, .inl (fun _ => 0))), (q_5, .inl (k_5, 256, .inl (fun _ => 0))), (q_7, .inl (k_7, 256, .inl (fun _ => 0)))] := hD_8
  clear hP_7 hD_7 hS_7
  refine lv_aload_n hx hb dX10_init_31 rfl (lv_at hl_2 1 rfl) ?_
  refine lv_iload_n hx hb dX10_init_32 rfl (lv_at hl_2 0 rfl) ?_
  refine va_newa (atype := .int) hx hb (ht _ tw_296) rfl hK_7 hP_8 hD_8 hS_8 hA (a0 := (256, .inl (fun _ => 0))) (fun _ => rfl) (by decide) (by decide : (256 : Int32).toNatClampNeg = 256) (by decide) (Nat.le_of_ble_eq_true rfl) (Nat.le_of_ble_eq_true rfl) dX10_init_33 (fun q_9 k_9 H_9 hK_9 hP_9 hD_9 hS_9 => ?_)
  have hK_9 : va_K (dC, dI) vwCl [(k_3, .int), (k_5, .int), (k_7, .int), (k_9, .int)] s := hK_9
  have hP_9 : va_P (dC, dI) vwCl [(h0, .inr (13, [.int 0, .int 0, .int 0, .int 0, .ref q_3, .ref q_5, .ref q_7, .null, .null, .null, .null, .null, .null, .null, .null, .null, .null, .null, .null, .null])), (q_3, .inl (k_3, 256, .inl (fun _ => 0))), (q_5, .inl (k_5, 256, .inl (fun _ => 0))), (q_7, .inl (k_7, 256, .inl (fun _ => 0))), (q_9, .inl (k_9, 256, .inl (fun _ => 0)))] H_9 := hP_9
  have hD_9 : va_D A [(h0, .inr (13, [.int 0, .int 0, .int 0, .int 0, .ref q_3, .ref q_5, .ref q_7, .null, .null, .null, .null, .null, .null, .null, .null, .null, .null, .null, .null, .null])), (q_3, .inl (k_3, 256, .inl (fun _ => 0))), (q_5, .inl (k_5, 256, .inl (fun _ => 0))), (q_7, .inl (k_7, 256, .inl (fun _ => 0))), (q_9, .inl (k_9, 256, .inl (fun _ => 0)))] := hD_9
  clear hP_8 hD_8 hS_8 hK_7
  refine va_putF (D := (dC, dI)) (ci := 13) (v := .ref q_9) (ty := .array .int) (C := RX10) (T := TX10) (N := 20) hx hb ht inX10 tyX10 tyX10_ok nmX10 hown hK_9 hP_9 hD_9 hS_9 0 rfl rfl 7 (by decide) (ht _ tw_330) (fun _ h9 => h9) rfl hin rfl (by decide +kernel) rfl rfl (Nat.le_of_ble_eq_true rfl) dX10_init_35 (fun H_10 locs_10 hP_10 hD_10 hS_10 => ?_)
  have hP_10 : va_P (dC, dI) vwCl [(h0, .inr (13, [.int 0, .int 0, .int 0, .int 0, .ref q_3, .ref q_5, .ref q_7, .ref q_9, .null, .null, .null, .null, .null, .null, .null, .null, .null, .null, .null, .null])), (q_3, .inl (k_3, 256, .inl (fun _ => 0))), (q_5, .inl (k_5, 256, .inl (fun _ => 0))), (q_7, .inl (k_7, 256, .inl (fun _ => 0))), (q_9, .inl (k_9, 256, .inl (fun _ => 0)))] H_10 := hP_10
  have hD_10 : va_D A [(h0, .inr (13, [.int 0, .int 0, .int 0, .int 0, .ref q_3, .ref q_5, .ref q_7, .ref q_9, .null, .null, .null, .null, .null, .null, .null, .null, .null, .null, .null, .null])), (q_3, .inl (k_3, 256, .inl (fun _ => 0))), (q_5, .inl (k_5, 256, .inl (fun _ => 0))), (q_7, .inl (k_7, 256, .inl (fun _ => 0))), (q_9, .inl (k_9, 256, .inl (fun _ => 0)))] := hD_10
  clear hP_9 hD_9 hS_9
  refine lv_aload_n hx hb dX10_init_38 rfl (lv_at hl_2 1 rfl) ?_
  refine lv_iload_n hx hb dX10_init_39 rfl (lv_at hl_2 0 rfl) ?_
  refine va_newa (atype := .int) hx hb (ht _ tw_296) rfl hK_9 hP_10 hD_10 hS_10 hA (a0 := (256, .inl (fun _ => 0))) (fun _ => rfl) (by decide) (by decide : (256 : Int32).toNatClampNeg = 256) (by decide) (Nat.le_of_ble_eq_true rfl) (Nat.le_of_ble_eq_true rfl) dX10_init_40 (fun q_11 k_11 H_11 hK_11 hP_11 hD_11 hS_11 => ?_)
  have hK_11 : va_K (dC, dI) vwCl [(k_3, .int), (k_5, .int), (k_7, .int), (k_9, .int), (k_11, .int)] s := hK_11
  have hP_11 : va_P (dC, dI) vwCl [(h0, .inr (13, [.int 0, .int 0, .int 0, .int 0, .ref q_3, .ref q_5, .ref q_7, .ref q_9, .null, .null, .null, .null, .null, .null, .null, .null, .null, .null, .null, .null])), (q_3, .inl (k_3, 256, .inl (fun _ => 0))), (q_5, .inl (k_5, 256, .inl (fun _ => 0))), (q_7, .inl (k_7, 256, .inl (fun _ => 0))), (q_9, .inl (k_9, 256, .inl (fun _ => 0))), (q_11, .inl (k_11, 256, .inl (fun _ => 0)))] H_11 := hP_11
  have hD_11 : va_D A [(h0, .inr (13, [.int 0, .int 0, .int 0, .int 0, .ref q_3, .ref q_5, .ref q_7, .ref q_9, .null, .null, .null, .null, .null, .null, .null, .null, .null, .null, .null, .null])), (q_3, .inl (k_3, 256, .inl (fun _ => 0))), (q_5, .inl (k_5, 256, .inl (fun _ => 0))), (q_7, .inl (k_7, 256, .inl (fun _ => 0))), (q_9, .inl (k_9, 256, .inl (fun _ => 0))), (q_11, .inl (k_11, 256, .inl (fun _ => 0)))] := hD_11
  clear hP_10 hD_10 hS_10 hK_9
  refine va_putF (D := (dC, dI)) (ci := 13) (v := .ref q_11) (ty := .array .int) (C := RX10) (T := TX10) (N := 20) hx hb ht inX10 tyX10 tyX10_ok nmX10 hown hK_11 hP_11 hD_11 hS_11 0 rfl rfl 8 (by decide) (ht _ tw_331) (fun _ h9 => h9) rfl hin rfl (by decide +kernel) rfl rfl (Nat.le_of_ble_eq_true rfl) dX10_init_42 (fun H_12 locs_12 hP_12 hD_12 hS_12 => ?_)
  have hP_12 : va_P (dC, dI) vwCl [(h0, .inr (13, [.int 0, .int 0, .int 0, .int 0, .ref q_3, .ref q_5, .ref q_7, .ref q_9, .ref q_11, .null, .null, .null, .null, .null, .null, .null, .null, .null, .null, .null])), (q_3, .inl (k_3, 256, .inl (fun _ => 0))), (q_5, .inl (k_5, 256, .inl (fun _ => 0))), (q_7, .inl (k_7, 256, .inl (fun _ => 0))), (q_9, .inl (k_9, 256, .inl (fun _ => 0))), (q_11, .inl (k_11, 256, .inl (fun _ => 0)))] H_12 := hP_12
  have hD_12 : va_D A [(h0, .inr (13, [.int 0, .int 0, .int 0, .int 0, .ref q_3, .ref q_5, .ref q_7, .ref q_9, .ref q_11, .null, .null, .null, .null, .null, .null, .null, .null, .null, .null, .null])), (q_3, .inl (k_3, 256, .inl (fun _ => 0))), (q_5, .inl (k_5, 256, .inl (fun _ => 0))), (q_7, .inl (k_7, 256, .inl (fun _ => 0))), (q_9, .inl (k_9, 256, .inl (fun _ => 0))), (q_11, .inl (k_11, 256, .inl (fun _ => 0)))] := hD_12
  clear hP_11 hD_11 hS_11
  refine lv_aload_n hx hb dX10_init_45 rfl (lv_at hl_2 1 rfl) ?_
  refine lv_iload_n hx hb dX10_init_46 rfl (lv_at hl_2 0 rfl) ?_
  refine va_newa (atype := .int) hx hb (ht _ tw_296) rfl hK_11 hP_12 hD_12 hS_12 hA (a0 := (256, .inl (fun _ => 0))) (fun _ => rfl) (by decide) (by decide : (256 : Int32).toNatClampNeg = 256) (by decide) (Nat.le_of_ble_eq_true rfl) (Nat.le_of_ble_eq_true rfl) dX10_init_47 (fun q_13 k_13 H_13 hK_13 hP_13 hD_13 hS_13 => ?_)
  have hK_13 : va_K (dC, dI) vwCl [(k_3, .int), (k_5, .int), (k_7, .int), (k_9, .int), (k_11, .int), (k_13, .int)] s := hK_13
  have hP_13 : va_P (dC, dI) vwCl [(h0, .inr (13, [.int 0, .int 0, .int 0, .int 0, .ref q_3, .ref q_5, .ref q_7, .ref q_9, .ref q_11, .null, .null, .null, .null, .null, .null, .null, .null, .null, .null, .null])), (q_3, .inl (k_3, 256, .inl (fun _ => 0))), (q_5, .inl (k_5, 256, .inl (fun _ => 0))), (q_7, .inl (k_7, 256, .inl (fun _ => 0))), (q_9, .inl (k_9, 256, .inl (fun _ => 0))), (q_11, .inl (k_11, 256, .inl (fun _ => 0))), (q_13, .inl (k_13, 256, .inl (fun _ => 0)))] H_13 := hP_13
  have hD_13 : va_D A [(h0, .inr (13, [.int 0, .int 0, .int 0, .int 0, .ref q_3, .ref q_5, .ref q_7, .ref q_9, .ref q_11, .null, .null, .null, .null, .null, .null, .null, .null, .null, .null, .null])), (q_3, .inl (k_3, 256, .inl (fun _ => 0))), (q_5, .inl (k_5, 256, .inl (fun _ => 0))), (q_7, .inl (k_7, 256, .inl (fun _ => 0))), (q_9, .inl (k_9, 256, .inl (fun _ => 0))), (q_11, .inl (k_11, 256, .inl (fun _ => 0))), (q_13, .inl (k_13, 256, .inl (fun _ => 0)))] := hD_13
  clear hP_12 hD_12 hS_12 hK_11
  refine va_putF (D := (dC, dI)) (ci := 13) (v := .ref q_13) (ty := .array .int) (C := RX10) (T := TX10) (N := 20) hx hb ht inX10 tyX10 tyX10_ok nmX10 hown hK_13 hP_13 hD_13 hS_13 0 rfl rfl 9 (by decide) (ht _ tw_332) (fun _ h9 => h9) rfl hin rfl (by decide +kernel) rfl rfl (Nat.le_of_ble_eq_true rfl) dX10_init_49 (fun H_14 locs_14 hP_14 hD_14 hS_14 => ?_)
  have hP_14 : va_P (dC, dI) vwCl [(h0, .inr (13, [.int 0, .int 0, .int 0, .int 0, .ref q_3, .ref q_5, .ref q_7, .ref q_9, .ref q_11, .ref q_13, .null, .null, .null, .null, .null, .null, .null, .null, .null, .null])), (q_3, .inl (k_3, 256, .inl (fun _ => 0))), (q_5, .inl (k_5, 256, .inl (fun _ => 0))), (q_7, .inl (k_7, 256, .inl (fun _ => 0))), (q_9, .inl (k_9, 256, .inl (fun _ => 0))), (q_11, .inl (k_11, 256, .inl (fun _ => 0))), (q_13, .inl (k_13, 256, .inl (fun _ => 0)))] H_14 := hP_14
  have hD_14 : va_D A [(h0, .inr (13, [.int 0, .int 0, .int 0, .int 0, .ref q_3, .ref q_5, .ref q_7, .ref q_9, .ref q_11, .ref q_13, .null, .null, .null, .null, .null, .null, .null, .null, .null, .null])), (q_3, .inl (k_3, 256, .inl (fun _ => 0))), (q_5, .inl (k_5, 256, .inl (fun _ => 0))), (q_7, .inl (k_7, 256, .inl (fun _ => 0))), (q_9, .inl (k_9, 256, .inl (fun _ => 0))), (q_11, .inl (k_11, 256, .inl (fun _ => 0))), (q_13, .inl (k_13, 256, .inl (fun _ => 0)))] := hD_14
  clear hP_13 hD_13 hS_13
  refine lv_aload_n hx hb dX10_init_52 rfl (lv_at hl_2 1 rfl) ?_
  refine lv_iload_n hx hb dX10_init_53 rfl (lv_at hl_2 0 rfl) ?_
  refine va_newa (atype := .int) hx hb (ht _ tw_296) rfl hK_13 hP_14 hD_14 hS_14 hA (a0 := (256, .inl (fun _ => 0))) (fun _ => rfl) (by decide) (by decide : (256 : Int32).toNatClampNeg = 256) (by decide) (Nat.le_of_ble_eq_true rfl) (Nat.le_of_ble_eq_true rfl) dX10_init_54 (fun q_15 k_15 H_15 hK_15 hP_15 hD_15 hS_15 => ?_)
  have hK_15 : va_K (dC, dI) vwCl [(k_3, .int), (k_5, .int), (k_7, .int), (k_9, .int), (k_11, .int), (k_13, .int), (k_15, .int)] s := hK_15
  have hP_15 : va_P (dC, dI) vwCl [(h0, .inr (13, [.int 0, .int 0, .int 0, .int 0, .ref q_3, .ref q_5, .ref q_7, .ref q_9, .ref q_11, .ref q_13, .null, .null, .null, .null, .null, .null, .null, .null, .null, .null])), (q_3, .inl (k_3, 256, .inl (fun _ => 0))), (q_5, .inl (k_5, 256, .inl (fun _ => 0))), (q_7, .inl (k_7, 256, .inl (fun _ => 0))), (q_9, .inl (k_9, 256, .inl (fun _ => 0))), (q_11, .inl (k_11, 256, .inl (fun _ => 0))), (q_13, .inl (k_13, 256, .inl (fun _ => 0))), (q_15, .inl (k_15, 256, .inl (fun _ => 0)))] H_15 := hP_15
  have hD_15 : va_D A [(h0, .inr (13, [.int 0, .int 0, .int 0, .int 0, .ref q_3, .ref q_5, .ref q_7, .ref q_9, .ref q_11, .ref q_13, .null, .null, .null, .null, .null, .null, .null, .null, .null, .null])), (q_3, .inl (k_3, 256, .inl (fun _ => 0))), (q_5, .inl (k_5, 256, .inl (fun _ => 0))), (q_7, .inl (k_7, 256, .inl (fun _ => 0))), (q_9, .inl (k_9, 256, .inl (fun _ => 0))), (q_11, .inl (k_11, 256, .inl (fun _ => 0))), (q_13, .inl (k_13, 256, .inl (fun _ => 0))), (q_15, .inl (k_15, 256, .inl (fun _ => 0)))] := hD_15
  clear hP_14 hD_14 hS_14 hK_13
  refine va_putF (D := (dC, dI)) (ci := 13) (v := .ref q_15) (ty := .array .int) (C := RX10) (T := TX10) (N := 20) hx hb ht inX10 tyX10 tyX10_ok nmX10 hown hK_15 hP_15 hD_15 hS_15 0 rfl rfl 10 (by decide) (ht _ tw_333) (fun _ h9 => h9) rfl hin rfl (by decide +kernel) rfl rfl (Nat.le_of_ble_eq_true rfl) dX10_init_56 (fun H_16 locs_16 hP_16 hD_16 hS_16 => ?_)
  have hP_16 : va_P (dC, dI) vwCl [(h0, .inr (13, [.int 0, .int 0, .int 0, .int 0, .ref q_3, .ref q_5, .ref q_7, .ref q_9, .ref q_11, .ref q_13, .ref q_15, .null, .null, .null, .null, .null, .null, .null, .null, .null])), (q_3, .inl (k_3, 256, .inl (fun _ => 0))), (q_5, .inl (k_5, 256, .inl (fun _ => 0))), (q_7, .inl (k_7, 256, .inl (fun _ => 0))), (q_9, .inl (k_9, 256, .inl (fun _ => 0))), (q_11, .inl (k_11, 256, .inl (fun _ => 0))), (q_13, .inl (k_13, 256, .inl (fun _ => 0))), (q_15, .inl (k_15, 256, .inl (fun _ => 0)))] H_16 := hP_16
  have hD_16 : va_D A [(h0, .inr (13, [.int 0, .int 0, .int 0, .int 0, .ref q_3, .ref q_5, .ref q_7, .ref q_9, .ref q_11, .ref q_13, .ref q_15, .null, .null, .null, .null, .null, .null, .null, .null, .null])), (q_3, .inl (k_3, 256, .inl (fun _ => 0))), (q_5, .inl (k_5, 256, .inl (fun _ => 0))), (q_7, .inl (k_7, 256, .inl (fun _ => 0))), (q_9, .inl (k_9, 256, .inl (fun _ => 0))), (q_11, .inl (k_11, 256, .inl (fun _ => 0))), (q_13, .inl (k_13, 256, .inl (fun _ => 0))), (q_15, .inl (k_15, 256, .inl (fun _ => 0)))] := hD_16
  clear hP_15 hD_15 hS_15
  refine lv_aload_n hx hb dX10_init_59 rfl (lv_at hl_2 1 rfl) ?_
  refine lv_iload_n hx hb dX10_init_60 rfl (lv_at hl_2 0 rfl) ?_
  refine va_newa (atype := .int) hx hb (ht _ tw_296) rfl hK_15 hP_16 hD_16 hS_16 hA (a0 := (256, .inl (fun _ => 0))) (fun _ => rfl) (by decide) (by decide : (256 : Int32).toNatClampNeg = 256) (by decide) (Nat.le_of_ble_eq_true rfl) (Nat.le_of_ble_eq_true rfl) dX10_init_61 (fun q_17 k_17 H_17 hK_17 hP_17 hD_17 hS_17 => ?_)
  have hK_17 : va_K (dC, dI) vwCl [(k_3, .int), (k_5, .int), (k_7, .int), (k_9, .int), (k_11, .int), (k_13, .int), (k_15, .int), (k_17, .int)] s := hK_17
  have hP_17 : va_P (dC, dI) vwCl [(h0, .inr (13, [.int 0, .int 0, .int 0, .int 0, .ref q_3, .ref q_5, .ref q_7, .ref q_9, .ref q_11, .ref q_13, .ref q_15, .null, .null, .null, .null, .null, .null, .null, .null, .null])), (q_3, .inl (k_3, 256, .inl (fun _ => 0))), (q_5, .inl (k_5, 256, .inl (fun _ => 0))), (q_7, .inl (k_7, 256, .inl (fun _ => 0))), (q_9, .inl (k_9, 256, .inl (fun _ => 0))), (q_11, .inl (k_11, 256, .inl (fun _ => 0))), (q_13, .inl (k_13, 256, .inl (fun _ => 0))), (q_15, .inl (k_15, 256, .inl (fun _ => 0))), (q_17, .inl (k_17, 256, .inl (fun _ => 0)))] H_17 := hP_17
  have hD_17 : va_D A [(h0, .inr (13, [.int 0, .int 0, .int 0, .int 0, .ref q_3, .ref q_5, .ref q_7, .ref q_9, .ref q_11, .ref q_13, .ref q_15, .null, .null, .null, .null, .null, .null, .null, .null, .null])), (q_3, .inl (k_3, 256, .inl (fun _ => 0))), (q_5, .inl (k_5, 256, .inl (fun _ => 0))), (q_7, .inl (k_7, 256, .inl (fun _ => 0))), (q_9, .inl (k_9, 256, .inl (fun _ => 0))), (q_11, .inl (k_11, 256, .inl (fun _ => 0))), (q_13, .inl (k_13, 256, .inl (fun _ => 0))), (q_15, .inl (k_15, 256, .inl (fun _ => 0))), (q_17, .inl (k_17, 256, .inl (fun _ => 0)))] := hD_17
  clear hP_16 hD_16 hS_16 hK_15
  refine va_putF (D := (dC, dI)) (ci := 13) (v := .ref q_17) (ty := .array .int) (C := RX10) (T := TX10) (N := 20) hx hb ht inX10 tyX10 tyX10_ok nmX10 hown hK_17 hP_17 hD_17 hS_17 0 rfl rfl 11 (by decide) (ht _ tw_334) (fun _ h9 => h9) rfl hin rfl (by decide +kernel) rfl rfl (Nat.le_of_ble_eq_true rfl) dX10_init_63 (fun H_18 locs_18 hP_18 hD_18 hS_18 => ?_)
  have hP_18 : va_P (dC, dI) vwCl [(h0, .inr (13, [.int 0, .int 0, .int 0, .int 0, .ref q_3, .ref q_5, .ref q_7, .ref q_9, .ref q_11, .ref q_13, .ref q_15, .ref q_17, .null, .null, .null, .null, .null, .null, .null, .null])), (q_3, .inl (k_3, 256, .inl (fun _ => 0))), (q_5, .inl (k_5, 256, .inl (fun _ => 0))), (q_7, .inl (k_7, 256, .inl (fun _ => 0))), (q_9, .inl (k_9, 256, .inl (fun _ => 0))), (q_11, .inl (k_11, 256, .inl (fun _ => 0))), (q_13, .inl (k_13, 256, .inl (fun _ => 0))), (q_15, .inl (k_15, 256, .inl (fun _ => 0))), (q_17, .inl (k_17, 256, .inl (fun _ => 0)))] H_18 := hP_18
  have hD_18 : va_D A [(h0, .inr (13, [.int 0, .int 0, .int 0, .int 0, .ref q_3, .ref q_5, .ref q_7, .ref q_9, .ref q_11, .ref q_13, .ref q_15, .ref q_17, .null, .null, .null, .null, .null, .null, .null, .null])), (q_3, .inl (k_3, 256, .inl (fun _ => 0))), (q_5, .inl (k_5, 256, .inl (fun _ => 0))), (q_7, .inl (k_7, 256, .inl (fun _ => 0))), (q_9, .inl (k_9, 256, .inl (fun _ => 0))), (q_11, .inl (k_11, 256, .inl (fun _ => 0))), (q_13, .inl (k_13, 256, .inl (fun _ => 0))), (q_15, .inl (k_15, 256, .inl (fun _ => 0))), (q_17, .inl (k_17, 256, .inl (fun _ => 0)))] := hD_18
  clear hP_17 hD_17 hS_17
  refine lv_aload_n hx hb dX10_init_66 rfl (lv_at hl_2 1 rfl) ?_
  refine lv_iload_n hx hb dX10_init_67 rfl (lv_at hl_2 0 rfl) ?_
  refine va_newa (atype := .int) hx hb (ht _ tw_296) rfl hK_17 hP_18 hD_18 hS_18 hA (a0 := (256, .inl (fun _ => 0))) (fun _ => rfl) (by decide) (by decide : (256 : Int32).toNatClampNeg = 256) (by decide) (Nat.le_of_ble_eq_true rfl) (Nat.le_of_ble_eq_true rfl) dX10_init_68 (fun q_19 k_19 H_19 hK_19 hP_19 hD_19 hS_19 => ?_)
  have hK_19 : va_K (dC, dI) vwCl [(k_3, .int), (k_5, .int), (k_7, .int), (k_9, .int), (k_11, .int), (k_13, .int), (k_15, .int), (k_17, .int), (k_19, .int)] s := hK_19
  have hP_19 : va_P (dC, dI) vwCl [(h0, .inr (13, [.int 0, .int 0, .int 0, .int 0, .ref q_3, .ref q_5, .ref q_7, .ref q_9, .ref q_11, .ref q_13, .ref q_15, .ref q_17, .null, .null, .null, .null, .null, .null, .null, .null])), (q_3, .inl (k_3, 256, .inl (fun _ => 0))), (q_5, .inl (k_5, 256, .inl (fun _ => 0))), (q_7, .inl (k_7, 256, .inl (fun _ => 0))), (q_9, .inl (k_9, 256, .inl (fun _ => 0))), (q_11, .inl (k_11, 256, .inl (fun _ => 0))), (q_13, .inl (k_13, 256, .inl (fun _ => 0))), (q_15, .inl (k_15, 256, .inl (fun _ => 0))), (q_17, .inl (k_17, 256, .inl (fun _ => 0))), (q_19, .inl (k_19, 256, .inl (fun _ => 0)))] H_19 := hP_19
  have hD_19 : va_D A [(h0, .inr (13, [.int 0, .int 0, .int 0, .int 0, .ref q_3, .ref q_5, .ref q_7, .ref q_9, .ref q_11, .ref q_13, .ref q_15, .ref q_17, .null, .null, .null, .null, .null, .null, .null, .null])), (q_3, .inl (k_3, 256, .inl (fun _ => 0))), (q_5, .inl (k_5, 256, .inl (fun _ => 0))), (q_7, .inl (k_7, 256, .inl (fun _ => 0))), (q_9, .inl (k_9, 256, .inl (fun _ => 0))), (q_11, .inl (k_11, 256, .inl (fun _ => 0))), (q_13, .inl (k_13, 256, .inl (fun _ => 0))), (q_15, .inl (k_15, 256, .inl (fun _ => 0))), (q_17, .inl (k_17, 256, .inl (fun _ => 0))), (q_19, .inl (k_19, 256, .inl (fun _ => 0)))] := hD_19
  clear hP_18 hD_18 hS_18 hK_17
  refine va_putF (D := (dC, dI)) (ci := 13) (v := .ref q_19) (ty := .array .int) (C := RX10) (T := TX10) (N := 20) hx hb ht inX10 tyX10 tyX10_ok nmX10 hown hK_19 hP_19 hD_19 hS_19 0 rfl rfl 12 (by decide) (ht _ tw_335) (fun _ h9 => h9) rfl hin rfl (by decide +kernel) rfl rfl (Nat.le_of_ble_eq_true rfl) dX10_init_70 (fun H_20 locs_20 hP_20 hD_20 hS_20 => ?_)
  have hP_20 : va_P (dC, dI) vwCl [(h0, .inr (13, [.int 0, .int 0, .int 0, .int 0, .ref q_3, .ref q_5, .ref q_7, .ref q_9, .ref q_11, .ref q_13, .ref q_15, .ref q_17, .ref q_19, .null, .null, .null, .null, .null, .null, .null])), (q_3, .inl (k_3, 256, .inl (fun _ => 0))), (q_5, .inl (k_5, 256, .inl (fun _ => 0))), (q_7, .inl (k_7, 256, .inl (fun _ => 0))), (q_9, .inl (k_9, 256, .inl (fun _ => 0))), (q_11, .inl (k_11, 256, .inl (fun _ => 0))), (q_13, .inl (k_13, 256, .inl (fun _ => 0))), (q_15, .inl (k_15, 256, .inl (fun _ => 0))), (q_17, .inl (k_17, 256, .inl (fun _ => 0))), (q_19, .inl (k_19, 256, .inl (fun _ => 0)))] H_20 := hP_20
  have hD_20 : va_D A [(h0, .inr (13, [.int 0, .int 0, .int 0, .int 0, .ref q_3, .ref q_5, .ref q_7, .ref q_9, .ref q_11, .ref q_13, .ref q_15, .ref q_17, .ref q_19, .null, .null, .null, .null, .null, .null, .null])), (q_3, .inl (k_3, 256, .inl (fun _ => 0))), (q_5, .inl (k_5, 256, .inl (fun _ => 0))), (q_7, .inl (k_7, 256, .inl (fun _ => 0))), (q_9, .inl (k_9, 256, .inl (fun _ => 0))), (q_11, .inl (k_11, 256, .inl (fun _ => 0))), (q_13, .inl (k_13, 256, .inl (fun _ => 0))), (q_15, .inl (k_15, 256, .inl (fun _ => 0))), (q_17, .inl (k_17, 256, .inl (fun _ => 0))), (q_19, .inl (k_19, 256, .inl (fun _ => 0)))] := hD_20
  clear hP_19 hD_19 hS_19
  refine lv_aload_n hx hb dX10_init_73 rfl (lv_at hl_2 1 rfl) ?_
  refine lv_iload_n hx hb dX10_init_74 rfl (lv_at hl_2 0 rfl) ?_
  refine va_newa (atype := .int) hx hb (ht _ tw_296) rfl hK_19 hP_20 hD_20 hS_20 hA (a0 := (256, .inl (fun _ => 0))) (fun _ => rfl) (by decide) (by decide : (256 : Int32).toNatClampNeg = 256) (by decide) (Nat.le_of_ble_eq_true rfl) (Nat.le_of_ble_eq_true rfl) dX10_init_75 (fun q_21 k_21 H_21 hK_21 hP_21 hD_21 hS_21 => ?_)
  have hK_21 : va_K (dC, dI) vwCl [(k_3, .int), (k_5, .int), (k_7, .int), (k_9, .int), (k_11, .int), (k_13, .int), (k_15, .int), (k_17, .int), (k_19, .int), (k_21, .int)] s := hK_21
  have hP_21 : va_P (dC, dI) vwCl [(h0, .inr (13, [.int 0, .int 0, .int 0, .int 0, .ref q_3, .ref q_5, .ref q_7, .ref q_9, .ref q_11, .ref q_13, .ref q_15, .ref q_17, .ref q_19, .null, .null, .null, .null, .null, .null, .null])), (q_3, .inl (k_3, 256, .inl (fun _ => 0))), (q_5, .inl (k_5, 256, .inl (fun _ => 0))), (q_7, .inl (k_7, 256, .inl (fun _ => 0))), (q_9, .inl (k_9, 256, .inl (fun _ => 0))), (q_11, .inl (k_11, 256, .inl (fun _ => 0))), (q_13, .inl (k_13, 256, .inl (fun _ => 0))), (q_15, .inl (k_15, 256, .inl (fun _ => 0))), (q_17, .inl (k_17, 256, .inl (fun _ => 0))), (q_19, .inl (k_19, 256, .inl (fun _ => 0))), (q_21, .inl (k_21, 256, .inl (fun _ => 0)))] H_21 := hP_21
  have hD_21 : va_D A [(h0, .inr (13, [.int 0, .int 0, .int 0, .int 0, .ref q_3, .ref q_5, .ref q_7, .ref q_9, .ref q_11, .ref q_13, .ref q_15, .ref q_17, .ref q_19, .null, .null, .null, .null, .null, .null, .null])), (q_3, .inl (k_3, 256, .inl (fun _ => 0))), (q_5, .inl (k_5, 256, .inl (fun _ => 0))), (q_7, .inl (k_7, 256, .inl (fun _ => 0))), (q_9, .inl (k_9, 256, .inl (fun _ => 0))), (q_11, .inl (k_11, 256, .inl (fun _ => 0))), (q_13, .inl (k_13, 256, .inl (fun _ => 0))), (q_15, .inl (k_15, 256, .inl (fun _ => 0))), (q_17, .inl (k_17, 256, .inl (fun _ => 0))), (q_19, .inl (k_19, 256, .inl (fun _ => 0))), (q_21, .inl (k_21, 256, .inl (fun _ => 0)))] := hD_21
  clear hP_20 hD_20 hS_20 hK_19
  refine va_putF (D := (dC, dI)) (ci := 13) (v := .ref q_21) (ty := .array .int) (C := RX10) (T := TX10) (N := 20) hx hb ht inX10 tyX10 tyX10_ok nmX10 hown hK_21 hP_21 hD_21 hS_21 0 rfl rfl 13 (by decide) (ht _ tw_336) (fun _ h9 => h9) rfl hin rfl (by decide +kernel) rfl rfl (Nat.le_of_ble_eq_true rfl) dX10_init_77 (fun H_22 locs_22 hP_22 hD_22 hS_22 => ?_)
  have hP_22 : va_P (dC, dI) vwCl [(h0, .inr (13, [.int 0, .int 0, .int 0, .int 0, .ref q_3, .ref q_5, .ref q_7, .ref q_9, .ref q_11, .ref q_13, .ref q_15, .ref q_17, .ref q_19, .ref q_21, .null, .null, .null, .null, .null, .null])), (q_3, .inl (k_3, 256, .inl (fun _ => 0))), (q_5, .inl (k_5, 256, .inl (fun _ => 0))), (q_7, .inl (k_7, 256, .inl (fun _ => 0))), (q_9, .inl (k_9, 256, .inl (fun _ => 0))), (q_11, .inl (k_11, 256, .inl (fun _ => 0))), (q_13, .inl (k_13, 256, .inl (fun _ => 0))), (q_15, .inl (k_15, 256, .inl (fun _ => 0))), (q_17, .inl (k_17, 256, .inl (fun _ => 0))), (q_19, .inl (k_19, 256, .inl (fun _ => 0))), (q_21, .inl (k_21, 256, .inl (fun _ => 0)))] H_22 := hP_22
  have hD_22 : va_D A [(h0, .inr (13, [.int 0, .int 0, .int 0, .int 0, .ref q_3, .ref q_5, .ref q_7, .ref q_9, .ref q_11, .ref q_13, .ref q_15, .ref q_17, .ref q_19, .ref q_21, .null, .null, .null, .null, .null, .null])), (q_3, .inl (k_3, 256, .inl (fun _ => 0))), (q_5, .inl (k_5, 256, .inl (fun _ => 0))), (q_7, .inl (k_7, 256, .inl (fun _ => 0))), (q_9, .inl (k_9, 256, .inl (fun _ => 0))), (q_11, .inl (k_11, 256, .inl (fun _ => 0))), (q_13, .inl (k_13, 256, .inl (fun _ => 0))), (q_15, .inl (k_15, 256, .inl (fun _ => 0))), (q_17, .inl (k_17, 256, .inl (fun _ => 0))), (q_19, .inl (k_19, 256, .inl (fun _ => 0))), (q_21, .inl (k_21, 256, .inl (fun _ => 0)))] := hD_22
  clear hP_21 hD_21 hS_21
  refine lv_aload_n hx hb dX10_init_80 rfl (lv_at hl_2 1 rfl) ?_
  refine lv_iload_n hx hb dX10_init_81 rfl (lv_at hl_2 0 rfl) ?_
  refine va_newa (atype := .int) hx hb (ht _ tw_296) rfl hK_21 hP_22 hD_22 hS_22 hA (a0 := (256, .inl (fun _ => 0))) (fun _ => rfl) (by decide) (by decide : (256 : Int32).toNatClampNeg = 256) (by decide) (Nat.le_of_ble_eq_true rfl) (Nat.le_of_ble_eq_true rfl) dX10_init_82 (fun q_23 k_23 H_23 hK_23 hP_23 hD_23 hS_23 => ?_)
  have hK_23 : va_K (dC, dI) vwCl [(k_3, .int), (k_5, .int), (k_7, .int), (k_9, .int), (k_11, .int), (k_13, .int), (k_15, .int), (k_17, .int), (k_19, .int), (k_21, .int), (k_23, .int)] s := hK_23
  have hP_23 : va_P (dC, dI) vwCl [(h0, .inr (13, [.int 0, .int 0, .int 0, .int 0, .ref q_3, .ref q_5, .ref q_7, .ref q_9, .ref q_11, .ref q_13, .ref q_15, .ref q_17, .ref q_19, .ref q_21, .null, .null, .null, .null, .null, .null])), (q_3, .inl (k_3, 256, .inl (fun _ => 0))), (q_5, .inl (k_5, 256, .inl (fun _ => 0))), (q_7, .inl (k_7, 256, .inl (fun _ => 0))), (q_9, .inl (k_9, 256, .inl (fun _ => 0))), (q_11, .inl (k_11, 256, .inl (fun _ => 0))), (q_13, .inl (k_13, 256, .inl (fun _ => 0))), (q_15, .inl (k_15, 256, .inl (fun _ => 0))), (q_17, .inl (k_17, 256, .inl (fun _ => 0))), (q_19, .inl (k_19, 256, .inl (fun _ => 0))), (q_21, .inl (k_21, 256, .inl (fun _ => 0))), (q_23, .inl (k_23, 256, .inl (fun _ => 0)))] H_23 := hP_23
  have hD_23 : va_D A [(h0, .inr (13, [.int 0, .int 0, .int 0, .int 0, .ref q_3, .ref q_5, .ref q_7, .ref q_9, .ref q_11, .ref q_13, .ref q_15, .ref q_17, .ref q_19, .ref q_21, .null, .null, .null, .null, .null, .null])), (q_3, .inl (k_3, 256, .inl (fun _ => 0))), (q_5, .inl (k_5, 256, .inl (fun _ => 0))), (q_7, .inl (k_7, 256, .inl (fun _ => 0))), (q_9, .inl (k_9, 256, .inl (fun _ => 0))), (q_11, .inl (k_11, 256, .inl (fun _ => 0))), (q_13, .inl (k_13, 256, .inl (fun _ => 0))), (q_15, .inl (k_15, 256, .inl (fun _ => 0))), (q_17, .inl (k_17, 256, .inl (fun _ => 0))), (q_19, .inl (k_19, 256, .inl (fun _ => 0))), (q_21, .inl (k_21, 256, .inl (fun _ => 0))), (q_23, .inl (k_23, 256, .inl (fun _ => 0)))] := hD_23
  clear hP_22 hD_22 hS_22 hK_21
  refine va_putF (D := (dC, dI)) (ci := 13) (v := .ref q_23) (ty := .array .int) (C := RX10) (T := TX10) (N := 20) hx hb ht inX10 tyX10 tyX10_ok nmX10 hown hK_23 hP_23 hD_23 hS_23 0 rfl rfl 14 (by decide) (ht _ tw_337) (fun _ h9 => h9) rfl hin rfl (by decide +kernel) rfl rfl (Nat.le_of_ble_eq_true rfl) dX10_init_84 (fun H_24 locs_24 hP_24 hD_24 hS_24 => ?_)
  have hP_24 : va_P (dC, dI) vwCl [(h0, .inr (13, [.int 0, .int 0, .int 0, .int 0, .ref q_3, .ref q_5, .ref q_7, .ref q_9, .ref q_11, .ref q_13, .ref q_15, .ref q_17, .ref q_19, .ref q_21, .ref q_23, .null, .null, .null, .null, .null])), (q_3, .inl (k_3, 256, .inl (fun _ => 0))), (q_5, .inl (k_5, 256, .inl (fun _ => 0))), (q_7, .inl (k_7, 256, .inl (fun _ => 0))), (q_9, .inl (k_9, 256, .inl (fun _ => 0))), (q_11, .inl (k_11, 256, .inl (fun _ => 0))), (q_13, .inl (k_13, 256, .inl (fun _ => 0))), (q_15, .inl (k_15, 256, .inl (fun _ => 0))), (q_17, .inl (k_17, 256, .inl (fun _ => 0))), (q_19, .inl (k_19, 256, .inl (fun _ => 0))), (q_21, .inl (k_21, 256, .inl (fun _ => 0))), (q_23, .inl (k_23, 256, .inl (fun _ => 0)))] H_24 := hP_24
  have hD_24 : va_D A [(h0, .inr (13, [.int 0, .int 0, .int 0, .int 0, .ref q_3, .ref q_5, .ref q_7, .ref q_9, .ref q_11, .ref q_13, .ref q_15, .ref q_17, .ref q_19, .ref q_21, .ref q_23, .null, .null, .null, .null, .null])), (q_3, .inl (k_3, 256, .inl (fun _ => 0))), (q_5, .inl (k_5, 256, .inl (fun _ => 0))), (q_7, .inl (k_7, 256, .inl (fun _ => 0))), (q_9, .inl (k_9, 256, .inl (fun _ => 0))), (q_11, .inl (k_11, 256, .inl (fun _ => 0))), (q_13, .inl (k_13, 256, .inl (fun _ => 0))), (q_15, .inl (k_15, 256, .inl (fun _ => 0))), (q_17, .inl (k_17, 256, .inl (fun _ => 0))), (q_19, .inl (k_19, 256, .inl (fun _ => 0))), (q_21, .inl (k_21, 256, .inl (fun _ => 0))), (q_23, .inl (k_23, 256, .inl (fun _ => 0)))] := hD_24
  clear hP_23 hD_23 hS_23
  refine lv_aload_n hx hb dX10_init_87 rfl (lv_at hl_2 1 rfl) ?_
  refine lv_iload_n hx hb dX10_init_88 rfl (lv_at hl_2 0 rfl) ?_
  refine va_newa (atype := .boolean) hx hb (ht _ tw_384) rfl hK_23 hP_24 hD_24 hS_24 hA (a0 := (256, .inl (fun _ => 0))) (fun _ => rfl) (by decide) (by decide : (256 : Int32).toNatClampNeg = 256) (by decide) (Nat.le_of_ble_eq_true rfl) (Nat.le_of_ble_eq_true rfl) dX10_init_89 (fun q_25 k_25 H_25 hK_25 hP_25 hD_25 hS_25 => ?_)
  have hK_25 : va_K (dC, dI) vwCl [(k_3, .int), (k_5, .int), (k_7, .int), (k_9, .int), (k_11, .int), (k_13, .int), (k_15, .int), (k_17, .int), (k_19, .int), (k_21, .int), (k_23, .int), (k_25, .boolean)] s := hK_25
  have hP_25 : va_P (dC, dI) vwCl [(h0, .inr (13, [.int 0, .int 0, .int 0, .int 0, .ref q_3, .ref q_5, .ref q_7, .ref q_9, .ref q_11, .ref q_13, .ref q_15, .ref q_17, .ref q_19, .ref q_21, .ref q_23, .null, .null, .null, .null, .null])), (q_3, .inl (k_3, 256, .inl (fun _ => 0))), (q_5, .inl (k_5, 256, .inl (fun _ => 0))), (q_7, .inl (k_7, 256, .inl (fun _ => 0))), (q_9, .inl (k_9, 256, .inl (fun _ => 0))), (q_11, .inl (k_11, 256, .inl (fun _ => 0))), (q_13, .inl (k_13, 256, .inl (fun _ => 0))), (q_15, .inl (k_15, 256, .inl (fun _ => 0))), (q_17, .inl (k_17, 256, .inl (fun _ => 0))), (q_19, .inl (k_19, 256, .inl (fun _ => 0))), (q_21, .inl (k_21, 256, .inl (fun _ => 0))), (q_23, .inl (k_23, 256, .inl (fun _ => 0))), (q_25, .inl (k_25, 256, .inl (fun _ => 0)))] H_25 := hP_25
  have hD_25 : va_D A [(h0, .inr (13, [.int 0, .int 0, .int 0, .int 0, .ref q_3, .ref q_5, .ref q_7, .ref q_9, .ref q_11, .ref q_13, .ref q_15, .ref q_17, .ref q_19, .ref q_21, .ref q_23, .null, .null, .null, .null, .null])), (q_3, .inl (k_3, 256, .inl (fun _ => 0))), (q_5, .inl (k_5, 256, .inl (fun _ => 0))), (q_7, .inl (k_7, 256, .inl (fun _ => 0))), (q_9, .inl (k_9, 256, .inl (fun _ => 0))), (q_11, .inl (k_11, 256, .inl (fun _ => 0))), (q_13, .inl (k_13, 256, .inl (fun _ => 0))), (q_15, .inl (k_15, 256, .inl (fun _ => 0))), (q_17, .inl (k_17, 256, .inl (fun _ => 0))), (q_19, .inl (k_19, 256, .inl (fun _ => 0))), (q_21, .inl (k_21, 256, .inl (fun _ => 0))), (q_23, .inl (k_23, 256, .inl (fun _ => 0))), (q_25, .inl (k_25, 256, .inl (fun _ => 0)))] := hD_25
  clear hP_24 hD_24 hS_24 hK_23
  refine va_putF (D := (dC, dI)) (ci := 13) (v := .ref q_25) (ty := .array .boolean) (C := RX10) (T := TX10) (N := 20) hx hb ht inX10 tyX10 tyX10_ok nmX10 hown hK_25 hP_25 hD_25 hS_25 0 rfl rfl 15 (by decide) (ht _ tw_338) (fun _ h9 => h9) rfl hin rfl (by decide +kernel) rfl rfl (Nat.le_of_ble_eq_true rfl) dX10_init_91 (fun H_26 locs_26 hP_26 hD_26 hS_26 => ?_)
  have hP_26 : va_P (dC, dI) vwCl [(h0, .inr (13, [.int 0, .int 0, .int 0, .int 0, .ref q_3, .ref q_5, .ref q_7, .ref q_9, .ref q_11, .ref q_13, .ref q_15, .ref q_17, .ref q_19, .ref q_21, .ref q_23, .ref q_25, .null, .null, .null, .null])), (q_3, .inl (k_3, 256, .inl (fun _ => 0))), (q_5, .inl (k_5, 256, .inl (fun _ => 0))), (q_7, .inl (k_7, 256, .inl (fun _ => 0))), (q_9, .inl (k_9, 256, .inl (fun _ => 0))), (q_11, .inl (k_11, 256, .inl (fun _ => 0))), (q_13, .inl (k_13, 256, .inl (fun _ => 0))), (q_15, .inl (k_15, 256, .inl (fun _ => 0))), (q_17, .inl (k_17, 256, .inl (fun _ => 0))), (q_19, .inl (k_19, 256, .inl (fun _ => 0))), (q_21, .inl (k_21, 256, .inl (fun _ => 0))), (q_23, .inl (k_23, 256, .inl (fun _ => 0))), (q_25, .inl (k_25, 256, .inl (fun _ => 0)))] H_26 := hP_26
  have hD_26 : va_D A [(h0, .inr (13, [.int 0, .int 0, .int 0, .int 0, .ref q_3, .ref q_5, .ref q_7, .ref q_9, .ref q_11, .ref q_13, .ref q_15, .ref q_17, .ref q_19, .ref q_21, .ref q_23, .ref q_25, .null, .null, .null, .null])), (q_3, .inl (k_3, 256, .inl (fun _ => 0))), (q_5, .inl (k_5, 256, .inl (fun _ => 0))), (q_7, .inl (k_7, 256, .inl (fun _ => 0))), (q_9, .inl (k_9, 256, .inl (fun _ => 0))), (q_11, .inl (k_11, 256, .inl (fun _ => 0))), (q_13, .inl (k_13, 256, .inl (fun _ => 0))), (q_15, .inl (k_15, 256, .inl (fun _ => 0))), (q_17, .inl (k_17, 256, .inl (fun _ => 0))), (q_19, .inl (k_19, 256, .inl (fun _ => 0))), (q_21, .inl (k_21, 256, .inl (fun _ => 0))), (q_23, .inl (k_23, 256, .inl (fun _ => 0))), (q_25, .inl (k_25, 256, .inl (fun _ => 0)))] := hD_26
  clear hP_25 hD_25 hS_25
  refine lv_aload_n hx hb dX10_init_94 rfl (lv_at hl_2 1 rfl) ?_
  refine lv_iload_n hx hb dX10_init_95 rfl (lv_at hl_2 0 rfl) ?_
  refine va_newa (atype := .boolean) hx hb (ht _ tw_384) rfl hK_25 hP_26 hD_26 hS_26 hA (a0 := (256, .inl (fun _ => 0))) (fun _ => rfl) (by decide) (by decide : (256 : Int32).toNatClampNeg = 256) (by decide) (Nat.le_of_ble_eq_true rfl) (Nat.le_of_ble_eq_true rfl) dX10_init_96 (fun q_27 k_27 H_27 hK_27 hP_27 hD_27 hS_27 => ?_)
  have hK_27 : va_K (dC, dI) vwCl [(k_3, .int), (k_5, .int), (k_7, .int), (k_9, .int), (k_11, .int), (k_13, .int), (k_15, .int), (k_17, .int), (k_19, .int), (k_21, .int), (k_23, .int), (k_25, .boolean), (k_27, .boolean)] s := hK_27
  have hP_27 : va_P (dC, dI) vwCl [(h0, .inr (13, [.int 0, .int 0, .int 0, .int 0, .ref q_3, .ref q_5, .ref q_7, .ref q_9, .ref q_11, .ref q_13, .ref q_15, .ref q_17, .ref q_19, .ref q_21, .ref q_23, .ref q_25, .null, .null, .null, .null])), (q_3, .inl (k_3, 256, .inl (fun _ => 0))), (q_5, .inl (k_5, 256, .inl (fun _ => 0))), (q_7, .inl (k_7, 256, .inl (fun _ => 0))), (q_9, .inl (k_9, 256, .inl (fun _ => 0))), (q_11, .inl (k_11, 256, .inl (fun _ => 0))), (q_13, .inl (k_13, 256, .inl (fun _ => 0))), (q_15, .inl (k_15, 256, .inl (fun _ => 0))), (q_17, .inl (k_17, 256, .inl (fun _ => 0))), (q_19, .inl (k_19, 256, .inl (fun _ => 0))), (q_21, .inl (k_21, 256, .inl (fun _ => 0))), (q_23, .inl (k_23, 256, .inl (fun _ => 0))), (q_25, .inl (k_25, 256, .inl (fun _ => 0))), (q_27, .inl (k_27, 256, .inl (fun _ => 0)))] H_27 := hP_27
  have hD_27 : va_D A [(h0, .inr (13, [.int 0, .int 0, .int 0, .int 0, .ref q_3, .ref q_5, .ref q_7, .ref q_9, .ref q_11, .ref q_13, .ref q_15, .ref q_17, .ref q_19, .ref q_21, .ref q_23, .ref q_25, .null, .null, .null, .null])), (q_3, .inl (k_3, 256, .inl (fun _ => 0))), (q_5, .inl (k_5, 256, .inl (fun _ => 0))), (q_7, .inl (k_7, 256, .inl (fun _ => 0))), (q_9, .inl (k_9, 256, .inl (fun _ => 0))), (q_11, .inl (k_11, 256, .inl (fun _ => 0))), (q_13, .inl (k_13, 256, .inl (fun _ => 0))), (q_15, .inl (k_15, 256, .inl (fun _ => 0))), (q_17, .inl (k_17, 256, .inl (fun _ => 0))), (q_19, .inl (k_19, 256, .inl (fun _ => 0))), (q_21, .inl (k_21, 256, .inl (fun _ => 0))), (q_23, .inl (k_23, 256, .inl (fun _ => 0))), (q_25, .inl (k_25, 256, .inl (fun _ => 0))), (q_27, .inl (k_27, 256, .inl (fun _ => 0)))] := hD_27
  clear hP_26 hD_26 hS_26 hK_25
  refine va_putF (D := (dC, dI)) (ci := 13) (v := .ref q_27) (ty := .array .boolean) (C := RX10) (T := TX10) (N := 20) hx hb ht inX10 tyX10 tyX10_ok nmX10 hown hK_27 hP_27 hD_27 hS_27 0 rfl rfl 16 (by decide) (ht _ tw_339) (fun _ h9 => h9) rfl hin rfl (by decide +kernel) rfl rfl (Nat.le_of_ble_eq_true rfl) dX10_init_98 (fun H_28 locs_28 hP_28 hD_28 hS_28 => ?_)
  have hP_28 : va_P (dC, dI) vwCl [(h0, .inr (13, [.int 0, .int 0, .int 0, .int 0, .ref q_3, .ref q_5, .ref q_7, .ref q_9, .ref q_11, .ref q_13, .ref q_15, .ref q_17, .ref q_19, .ref q_21, .ref q_23, .ref q_25, .ref q_27, .null, .null, .null])), (q_3, .inl (k_3, 256, .inl (fun _ => 0))), (q_5, .inl (k_5, 256, .inl (fun _ => 0))), (q_7, .inl (k_7, 256, .inl (fun _ => 0))), (q_9, .inl (k_9, 256, .inl (fun _ => 0))), (q_11, .inl (k_11, 256, .inl (fun _ => 0))), (q_13, .inl (k_13, 256, .inl (fun _ => 0))), (q_15, .inl (k_15, 256, .inl (fun _ => 0))), (q_17, .inl (k_17, 256, .inl (fun _ => 0))), (q_19, .inl (k_19, 256, .inl (fun _ => 0))), (q_21, .inl (k_21, 256, .inl (fun _ => 0))), (q_23, .inl (k_23, 256, .inl (fun _ => 0))), (q_25, .inl (k_25, 256, .inl (fun _ => 0))), (q_27, .inl (k_27, 256, .inl (fun _ => 0)))] H_28 := hP_28
  have hD_28 : va_D A [(h0, .inr (13, [.int 0, .int 0, .int 0, .int 0, .ref q_3, .ref q_5, .ref q_7, .ref q_9, .ref q_11, .ref q_13, .ref q_15, .ref q_17, .ref q_19, .ref q_21, .ref q_23, .ref q_25, .ref q_27, .null, .null, .null])), (q_3, .inl (k_3, 256, .inl (fun _ => 0))), (q_5, .inl (k_5, 256, .inl (fun _ => 0))), (q_7, .inl (k_7, 256, .inl (fun _ => 0))), (q_9, .inl (k_9, 256, .inl (fun _ => 0))), (q_11, .inl (k_11, 256, .inl (fun _ => 0))), (q_13, .inl (k_13, 256, .inl (fun _ => 0))), (q_15, .inl (k_15, 256, .inl (fun _ => 0))), (q_17, .inl (k_17, 256, .inl (fun _ => 0))), (q_19, .inl (k_19, 256, .inl (fun _ => 0))), (q_21, .inl (k_21, 256, .inl (fun _ => 0))), (q_23, .inl (k_23, 256, .inl (fun _ => 0))), (q_25, .inl (k_25, 256, .inl (fun _ => 0))), (q_27, .inl (k_27, 256, .inl (fun _ => 0)))] := hD_28
  clear hP_27 hD_27 hS_27
  refine lv_aload_n hx hb dX10_init_101 rfl (lv_at hl_2 1 rfl) ?_
  refine lv_iload_n hx hb dX10_init_102 rfl (lv_at hl_2 0 rfl) ?_
  refine va_newa (atype := .boolean) hx hb (ht _ tw_384) rfl hK_27 hP_28 hD_28 hS_28 hA (a0 := (256, .inl (fun _ => 0))) (fun _ => rfl) (by decide) (by decide : (256 : Int32).toNatClampNeg = 256) (by decide) (Nat.le_of_ble_eq_true rfl) (Nat.le_of_ble_eq_true rfl) dX10_init_103 (fun q_29 k_29 H_29 hK_29 hP_29 hD_29 hS_29 => ?_)
  have hK_29 : va_K (dC, dI) vwCl [(k_3, .int), (k_5, .int), (k_7, .int), (k_9, .int), (k_11, .int), (k_13, .int), (k_15, .int), (k_17, .int), (k_19, .int), (k_21, .int), (k_23, .int), (k_25, .boolean), (k_27, .boolean), (k_29, .boolean)] s := hK_29
  have hP_29 : va_P (dC, dI) vwCl [(h0, .inr (13, [.int 0, .int 0, .int 0, .int 0, .ref q_3, .ref q_5, .ref q_7, .ref q_9, .ref q_11, .ref q_13, .ref q_15, .ref q_17, .ref q_19, .ref q_21, .ref q_23, .ref q_25, .ref q_27, .null, .null, .null])), (q_3, .inl (k_3, 256, .inl (fun _ => 0))), (q_5, .inl (k_5, 256, .inl (fun _ => 0))), (q_7, .inl (k_7, 256, .inl (fun _ => 0))), (q_9, .inl (k_9, 256, .inl (fun _ => 0))), (q_11, .inl (k_11, 256, .inl (fun _ => 0))), (q_13, .inl (k_13, 256, .inl (fun _ => 0))), (q_15, .inl (k_15, 256, .inl (fun _ => 0))), (q_17, .inl (k_17, 256, .inl (fun _ => 0))), (q_19, .inl (k_19, 256, .inl (fun _ => 0))), (q_21, .inl (k_21, 256, .inl (fun _ => 0))), (q_23, .inl (k_23, 256, .inl (fun _ => 0))), (q_25, .inl (k_25, 256, .inl (fun _ => 0))), (q_27, .inl (k_27, 256, .inl (fun _ => 0))), (q_29, .inl (k_29, 256, .inl (fun _ => 0)))] H_29 := hP_29
  have hD_29 : va_D A [(h0, .inr (13, [.int 0, .int 0, .int 0, .int 0, .ref q_3, .ref q_5, .ref q_7, .ref q_9, .ref q_11, .ref q_13, .ref q_15, .ref q_17, .ref q_19, .ref q_21, .ref q_23, .ref q_25, .ref q_27, .null, .null, .null])), (q_3, .inl (k_3, 256, .inl (fun _ => 0))), (q_5, .inl (k_5, 256, .inl (fun _ => 0))), (q_7, .inl (k_7, 256, .inl (fun _ => 0))), (q_9, .inl (k_9, 256, .inl (fun _ => 0))), (q_11, .inl (k_11, 256, .inl (fun _ => 0))), (q_13, .inl (k_13, 256, .inl (fun _ => 0))), (q_15, .inl (k_15, 256, .inl (fun _ => 0))), (q_17, .inl (k_17, 256, .inl (fun _ => 0))), (q_19, .inl (k_19, 256, .inl (fun _ => 0))), (q_21, .inl (k_21, 256, .inl (fun _ => 0))), (q_23, .inl (k_23, 256, .inl (fun _ => 0))), (q_25, .inl (k_25, 256, .inl (fun _ => 0))), (q_27, .inl (k_27, 256, .inl (fun _ => 0))), (q_29, .inl (k_29, 256, .inl (fun _ => 0)))] := hD_29
  clear hP_28 hD_28 hS_28 hK_27
  refine va_putF (D := (dC, dI)) (ci := 13) (v := .ref q_29) (ty := .array .boolean) (C := RX10) (T := TX10) (N := 20) hx hb ht inX10 tyX10 tyX10_ok nmX10 hown hK_29 hP_29 hD_29 hS_29 0 rfl rfl 17 (by decide) (ht _ tw_340) (fun _ h9 => h9) rfl hin rfl (by decide +kernel) rfl rfl (Nat.le_of_ble_eq_true rfl) dX10_init_105 (fun H_30 locs_30 hP_30 hD_30 hS_30 => ?_)
  have hP_30 : va_P (dC, dI) vwCl [(h0, .inr (13, [.int 0, .int 0, .int 0, .int 0, .ref q_3, .ref q_5, .ref q_7, .ref q_9, .ref q_11, .ref q_13, .ref q_15, .ref q_17, .ref q_19, .ref q_21, .ref q_23, .ref q_25, .ref q_27, .ref q_29, .null, .null])), (q_3, .inl (k_3, 256, .inl (fun _ => 0))), (q_5, .inl (k_5, 256, .inl (fun _ => 0))), (q_7, .inl (k_7, 256, .inl (fun _ => 0))), (q_9, .inl (k_9, 256, .inl (fun _ => 0))), (q_11, .inl (k_11, 256, .inl (fun _ => 0))), (q_13, .inl (k_13, 256, .inl (fun _ => 0))), (q_15, .inl (k_15, 256, .inl (fun _ => 0))), (q_17, .inl (k_17, 256, .inl (fun _ => 0))), (q_19, .inl (k_19, 256, .inl (fun _ => 0))), (q_21, .inl (k_21, 256, .inl (fun _ => 0))), (q_23, .inl (k_23, 256, .inl (fun _ => 0))), (q_25, .inl (k_25, 256, .inl (fun _ => 0))), (q_27, .inl (k_27, 256, .inl (fun _ => 0))), (q_29, .inl (k_29, 256, .inl (fun _ => 0)))] H_30 := hP_30
  have hD_30 : va_D A [(h0, .inr (13, [.int 0, .int 0, .int 0, .int 0, .ref q_3, .ref q_5, .ref q_7, .ref q_9, .ref q_11, .ref q_13, .ref q_15, .ref q_17, .ref q_19, .ref q_21, .ref q_23, .ref q_25, .ref q_27, .ref q_29, .null, .null])), (q_3, .inl (k_3, 256, .inl (fun _ => 0))), (q_5, .inl (k_5, 256, .inl (fun _ => 0))), (q_7, .inl (k_7, 256, .inl (fun _ => 0))), (q_9, .inl (k_9, 256, .inl (fun _ => 0))), (q_11, .inl (k_11, 256, .inl (fun _ => 0))), (q_13, .inl (k_13, 256, .inl (fun _ => 0))), (q_15, .inl (k_15, 256, .inl (fun _ => 0))), (q_17, .inl (k_17, 256, .inl (fun _ => 0))), (q_19, .inl (k_19, 256, .inl (fun _ => 0))), (q_21, .inl (k_21, 256, .inl (fun _ => 0))), (q_23, .inl (k_23, 256, .inl (fun _ => 0))), (q_25, .inl (k_25, 256, .inl (fun _ => 0))), (q_27, .inl (k_27, 256, .inl (fun _ => 0))), (q_29, .inl (k_29, 256, .inl (fun _ => 0)))] := hD_30
  clear hP_29 hD_29 hS_29
  refine lv_aload_n hx hb dX10_init_108 rfl (lv_at hl_2 1 rfl) ?_
  refine lv_iload_n hx hb dX10_init_109 rfl (lv_at hl_2 3 rfl) ?_
  refine lv_iconst (v := 0) hx hb dX10_init_110 (by decide) ?_
  refine va_mmax hx hb (by rw [hml]; exact hl_2.1.symm) hown (ht _ tw_316) (ht _ tw_274) (ht _ tw_238) (ht _ tw_275) (Nat.le_of_ble_eq_true rfl) (Nat.le_of_ble_eq_true rfl) (Nat.le_of_ble_eq_true rfl) (Nat.le_of_ble_eq_true rfl) dX10_init_111 ?_
  refine lv_topi (fun x_31 ex_31 => ?_)
  obtain rfl : x_31 = 512 := ex_31.trans (by decide)
  refine va_newa (atype := .int) hx hb (ht _ tw_296) rfl hK_29 hP_30 hD_30 hS_30 hA (a0 := (512, .inl (fun _ => 0))) (fun _ => rfl) (by decide) (by decide : (512 : Int32).toNatClampNeg = 512) (by decide) (Nat.le_of_ble_eq_true rfl) (Nat.le_of_ble_eq_true rfl) dX10_init_114 (fun q_32 k_32 H_32 hK_32 hP_32 hD_32 hS_32 => ?_)
  have hK_32 : va_K (dC, dI) vwCl [(k_3, .int), (k_5, .int), (k_7, .int), (k_9, .int), (k_11, .int), (k_13, .int), (k_15, .int), (k_17, .int), (k_19, .int), (k_21, .int), (k_23, .int), (k_25, .boolean), (k_27, .boolean), (k_29, .boolean), (k_32, .int)] s := hK_32
  have hP_32 : va_P (dC, dI) vwCl [(h0, .inr (13, [.int 0, .int 0, .int 0, .int 0, .ref q_3, .ref q_5, .ref q_7, .ref q_9, .ref q_11, .ref q_13, .ref q_15, .ref q_17, .ref q_19, .ref q_21, .ref q_23, .ref q_25, .ref q_27, .ref q_29, .null, .null])), (q_3, .inl (k_3, 256, .inl (fun _ => 0))), (q_5, .inl (k_5, 256, .inl (fun _ => 0))), (q_7, .inl (k_7, 256, .inl (fun _ => 0))), (q_9, .inl (k_9, 256, .inl (fun _ => 0))), (q_11, .inl (k_11, 256, .inl (fun _ => 0))), (q_13, .inl (k_13, 256, .inl (fun _ => 0))), (q_15, .inl (k_15, 256, .inl (fun _ => 0))), (q_17, .inl (k_17, 256, .inl (fun _ => 0))), (q_19, .inl (k_19, 256, .inl (fun _ => 0))), (q_21, .inl (k_21, 256, .inl (fun _ => 0))), (q_23, .inl (k_23, 256, .inl (fun _ => 0))), (q_25, .inl (k_25, 256, .inl (fun _ => 0))), (q_27, .inl (k_27, 256, .inl (fun _ => 0))), (q_29, .inl (k_29, 256, .inl (fun _ => 0))), (q_32, .inl (k_32, 512, .inl (fun _ => 0)))] H_32 := hP_32
  have hD_32 : va_D A [(h0, .inr (13, [.int 0, .int 0, .int 0, .int 0, .ref q_3, .ref q_5, .ref q_7, .ref q_9, .ref q_11, .ref q_13, .ref q_15, .ref q_17, .ref q_19, .ref q_21, .ref q_23, .ref q_25, .ref q_27, .ref q_29, .null, .null])), (q_3, .inl (k_3, 256, .inl (fun _ => 0))), (q_5, .inl (k_5, 256, .inl (fun _ => 0))), (q_7, .inl (k_7, 256, .inl (fun _ => 0))), (q_9, .inl (k_9, 256, .inl (fun _ => 0))), (q_11, .inl (k_11, 256, .inl (fun _ => 0))), (q_13, .inl (k_13, 256, .inl (fun _ => 0))), (q_15, .inl (k_15, 256, .inl (fun _ => 0))), (q_17, .inl (k_17, 256, .inl (fun _ => 0))), (q_19, .inl (k_19, 256, .inl (fun _ => 0))), (q_21, .inl (k_21, 256, .inl (fun _ => 0))), (q_23, .inl (k_23, 256, .inl (fun _ => 0))), (q_25, .inl (k_25, 256, .inl (fun _ => 0))), (q_27, .inl (k_27, 256, .inl (fun _ => 0))), (q_29, .inl (k_29, 256, .inl (fun _ => 0))), (q_32, .inl (k_32, 512, .inl (fun _ => 0)))] := hD_32
  clear hP_30 hD_30 hS_30 hK_29
  refine va_putF (D := (dC, dI)) (ci := 13) (v := .ref q_32) (ty := .array .int) (C := RX10) (T := TX10) (N := 20) hx hb ht inX10 tyX10 tyX10_ok nmX10 hown hK_32 hP_32 hD_32 hS_32 0 rfl rfl 18 (by decide) (ht _ tw_341) (fun _ h9 => h9) rfl hin rfl (by decide +kernel) rfl rfl (Nat.le_of_ble_eq_true rfl) dX10_init_116 (fun H_33 locs_33 hP_33 hD_33 hS_33 => ?_)
  have hP_33 : va_P (dC, dI) vwCl [(h0, .inr (13, [.int 0, .int 0, .int 0, .int 0, .ref q_3, .ref q_5, .ref q_7, .ref q_9, .ref q_11, .ref q_13, .ref q_15, .ref q_17, .ref q_19, .ref q_21, .ref q_23, .ref q_25, .ref q_27, .ref q_29, .ref q_32, .null])), (q_3, .inl (k_3, 256, .inl (fun _ => 0))), (q_5, .inl (k_5, 256, .inl (fun _ => 0))), (q_7, .inl (k_7, 256, .inl (fun _ => 0))), (q_9, .inl (k_9, 256, .inl (fun _ => 0))), (q_11, .inl (k_11, 256, .inl (fun _ => 0))), (q_13, .inl (k_13, 256, .inl (fun _ => 0))), (q_15, .inl (k_15, 256, .inl (fun _ => 0))), (q_17, .inl (k_17, 256, .inl (fun _ => 0))), (q_19, .inl (k_19, 256, .inl (fun _ => 0))), (q_21, .inl (k_21, 256, .inl (fun _ => 0))), (q_23, .inl (k_23, 256, .inl (fun _ => 0))), (q_25, .inl (k_25, 256, .inl (fun _ => 0))), (q_27, .inl (k_27, 256, .inl (fun _ => 0))), (q_29, .inl (k_29, 256, .inl (fun _ => 0))), (q_32, .inl (k_32, 512, .inl (fun _ => 0)))] H_33 := hP_33
  have hD_33 : va_D A [(h0, .inr (13, [.int 0, .int 0, .int 0, .int 0, .ref q_3, .ref q_5, .ref q_7, .ref q_9, .ref q_11, .ref q_13, .ref q_15, .ref q_17, .ref q_19, .ref q_21, .ref q_23, .ref q_25, .ref q_27, .ref q_29, .ref q_32, .null])), (q_3, .inl (k_3, 256, .inl (fun _ => 0))), (q_5, .inl (k_5, 256, .inl (fun _ => 0))), (q_7, .inl (k_7, 256, .inl (fun _ => 0))), (q_9, .inl (k_9, 256, .inl (fun _ => 0))), (q_11, .inl (k_11, 256, .inl (fun _ => 0))), (q_13, .inl (k_13, 256, .inl (fun _ => 0))), (q_15, .inl (k_15, 256, .inl (fun _ => 0))), (q_17, .inl (k_17, 256, .inl (fun _ => 0))), (q_19, .inl (k_19, 256, .inl (fun _ => 0))), (q_21, .inl (k_21, 256, .inl (fun _ => 0))), (q_23, .inl (k_23, 256, .inl (fun _ => 0))), (q_25, .inl (k_25, 256, .inl (fun _ => 0))), (q_27, .inl (k_27, 256, .inl (fun _ => 0))), (q_29, .inl (k_29, 256, .inl (fun _ => 0))), (q_32, .inl (k_32, 512, .inl (fun _ => 0)))] := hD_33
  clear hP_32 hD_32 hS_32
  refine lv_aload_n hx hb dX10_init_119 rfl (lv_at hl_2 1 rfl) ?_
  refine lv_iload_n hx hb dX10_init_120 rfl (lv_at hl_2 3 rfl) ?_
  refine lv_iconst (v := 0) hx hb dX10_init_121 (by decide) ?_
  refine va_mmax hx hb (by rw [hml]; exact hl_2.1.symm) hown (ht _ tw_316) (ht _ tw_274) (ht _ tw_238) (ht _ tw_275) (Nat.le_of_ble_eq_true rfl) (Nat.le_of_ble_eq_true rfl) (Nat.le_of_ble_eq_true rfl) (Nat.le_of_ble_eq_true rfl) dX10_init_122 ?_
  refine lv_topi (fun x_34 ex_34 => ?_)
  obtain rfl : x_34 = 512 := ex_34.trans (by decide)
  refine va_newa (atype := .int) hx hb (ht _ tw_296) rfl hK_32 hP_33 hD_33 hS_33 hA (a0 := (512, .inl (fun _ => 0))) (fun _ => rfl) (by decide) (by decide : (512 : Int32).toNatClampNeg = 512) (by decide) (Nat.le_of_ble_eq_true rfl) (Nat.le_of_ble_eq_true rfl) dX10_init_125 (fun q_35 k_35 H_35 hK_35 hP_35 hD_35 hS_35 => ?_)
  have hK_35 : va_K (dC, dI) vwCl [(k_3, .int), (k_5, .int), (k_7, .int), (k_9, .int), (k_11, .int), (k_13, .int), (k_15, .int), (k_17, .int), (k_19, .int), (k_21, .int), (k_23, .int), (k_25, .boolean), (k_27, .boolean), (k_29, .boolean), (k_32, .int), (k_35, .int)] s := hK_35
  have hP_35 : va_P (dC, dI) vwCl [(h0, .inr (13, [.int 0, .int 0, .int 0, .int 0, .ref q_3, .ref q_5, .ref q_7, .ref q_9, .ref q_11, .ref q_13, .ref q_15, .ref q_17, .ref q_19, .ref q_21, .ref q_23, .ref q_25, .ref q_27, .ref q_29, .ref q_32, .null])), (q_3, .inl (k_3, 256, .inl (fun _ => 0))), (q_5, .inl (k_5, 256, .inl (fun _ => 0))), (q_7, .inl (k_7, 256, .inl (fun _ => 0))), (q_9, .inl (k_9, 256, .inl (fun _ => 0))), (q_11, .inl (k_11, 256, .inl (fun _ => 0))), (q_13, .inl (k_13, 256, .inl (fun _ => 0))), (q_15, .inl (k_15, 256, .inl (fun _ => 0))), (q_17, .inl (k_17, 256, .inl (fun _ => 0))), (q_19, .inl (k_19, 256, .inl (fun _ => 0))), (q_21, .inl (k_21, 256, .inl (fun _ => 0))), (q_23, .inl (k_23, 256, .inl (fun _ => 0))), (q_25, .inl (k_25, 256, .inl (fun _ => 0))), (q_27, .inl (k_27, 256, .inl (fun _ => 0))), (q_29, .inl (k_29, 256, .inl (fun _ => 0))), (q_32, .inl (k_32, 512, .inl (fun _ => 0))), (q_35, .inl (k_35, 512, .inl (fun _ => 0)))] H_35 := hP_35
  have hD_35 : va_D A [(h0, .inr (13, [.int 0, .int 0, .int 0, .int 0, .ref q_3, .ref q_5, .ref q_7, .ref q_9, .ref q_11, .ref q_13, .ref q_15, .ref q_17, .ref q_19, .ref q_21, .ref q_23, .ref q_25, .ref q_27, .ref q_29, .ref q_32, .null])), (q_3, .inl (k_3, 256, .inl (fun _ => 0))), (q_5, .inl (k_5, 256, .inl (fun _ => 0))), (q_7, .inl (k_7, 256, .inl (fun _ => 0))), (q_9, .inl (k_9, 256, .inl (fun _ => 0))), (q_11, .inl (k_11, 256, .inl (fun _ => 0))), (q_13, .inl (k_13, 256, .inl (fun _ => 0))), (q_15, .inl (k_15, 256, .inl (fun _ => 0))), (q_17, .inl (k_17, 256, .inl (fun _ => 0))), (q_19, .inl (k_19, 256, .inl (fun _ => 0))), (q_21, .inl (k_21, 256, .inl (fun _ => 0))), (q_23, .inl (k_23, 256, .inl (fun _ => 0))), (q_25, .inl (k_25, 256, .inl (fun _ => 0))), (q_27, .inl (k_27, 256, .inl (fun _ => 0))), (q_29, .inl (k_29, 256, .inl (fun _ => 0))), (q_32, .inl (k_32, 512, .inl (fun _ => 0))), (q_35, .inl (k_35, 512, .inl (fun _ => 0)))] := hD_35
  clear hP_33 hD_33 hS_33 hK_32
  refine va_putF (D := (dC, dI)) (ci := 13) (v := .ref q_35) (ty := .array .int) (C := RX10) (T := TX10) (N := 20) hx hb ht inX10 tyX10 tyX10_ok nmX10 hown hK_35 hP_35 hD_35 hS_35 0 rfl rfl 19 (by decide) (ht _ tw_342) (fun _ h9 => h9) rfl hin rfl (by decide +kernel) rfl rfl (Nat.le_of_ble_eq_true rfl) dX10_init_127 (fun H_36 locs_36 hP_36 hD_36 hS_36 => ?_)
  have hP_36 : va_P (dC, dI) vwCl [(h0, .inr (13, [.int 0, .int 0, .int 0, .int 0, .ref q_3, .ref q_5, .ref q_7, .ref q_9, .ref q_11, .ref q_13, .ref q_15, .ref q_17, .ref q_19, .ref q_21, .ref q_23, .ref q_25, .ref q_27, .ref q_29, .ref q_32, .ref q_35])), (q_3, .inl (k_3, 256, .inl (fun _ => 0))), (q_5, .inl (k_5, 256, .inl (fun _ => 0))), (q_7, .inl (k_7, 256, .inl (fun _ => 0))), (q_9, .inl (k_9, 256, .inl (fun _ => 0))), (q_11, .inl (k_11, 256, .inl (fun _ => 0))), (q_13, .inl (k_13, 256, .inl (fun _ => 0))), (q_15, .inl (k_15, 256, .inl (fun _ => 0))), (q_17, .inl (k_17, 256, .inl (fun _ => 0))), (q_19, .inl (k_19, 256, .inl (fun _ => 0))), (q_21, .inl (k_21, 256, .inl (fun _ => 0))), (q_23, .inl (k_23, 256, .inl (fun _ => 0))), (q_25, .inl (k_25, 256, .inl (fun _ => 0))), (q_27, .inl (k_27, 256, .inl (fun _ => 0))), (q_29, .inl (k_29, 256, .inl (fun _ => 0))), (q_32, .inl (k_32, 512, .inl (fun _ => 0))), (q_35, .inl (k_35, 512, .inl (fun _ => 0)))] H_36 := hP_36
  have hD_36 : va_D A [(h0, .inr (13, [.int 0, .int 0, .int 0, .int 0, .ref q_3, .ref q_5, .ref q_7, .ref q_9, .ref q_11, .ref q_13, .ref q_15, .ref q_17, .ref q_19, .ref q_21, .ref q_23, .ref q_25, .ref q_27, .ref q_29, .ref q_32, .ref q_35])), (q_3, .inl (k_3, 256, .inl (fun _ => 0))), (q_5, .inl (k_5, 256, .inl (fun _ => 0))), (q_7, .inl (k_7, 256, .inl (fun _ => 0))), (q_9, .inl (k_9, 256, .inl (fun _ => 0))), (q_11, .inl (k_11, 256, .inl (fun _ => 0))), (q_13, .inl (k_13, 256, .inl (fun _ => 0))), (q_15, .inl (k_15, 256, .inl (fun _ => 0))), (q_17, .inl (k_17, 256, .inl (fun _ => 0))), (q_19, .inl (k_19, 256, .inl (fun _ => 0))), (q_21, .inl (k_21, 256, .inl (fun _ => 0))), (q_23, .inl (k_23, 256, .inl (fun _ => 0))), (q_25, .inl (k_25, 256, .inl (fun _ => 0))), (q_27, .inl (k_27, 256, .inl (fun _ => 0))), (q_29, .inl (k_29, 256, .inl (fun _ => 0))), (q_32, .inl (k_32, 512, .inl (fun _ => 0))), (q_35, .inl (k_35, 512, .inl (fun _ => 0)))] := hD_36
  clear hP_35 hD_35 hS_35
  have hP9 := hP_36.sub (ws' := [(h0, .inr (13, [.int 0, .int 0, .int 0, .int 0, .ref q_3, .ref q_5, .ref q_7, .ref q_9, .ref q_11, .ref q_13, .ref q_15, .ref q_17, .ref q_19, .ref q_21, .ref q_23, .ref q_25, .ref q_27, .ref q_29, .ref q_32, .ref q_35])), (q_3, .inl (k_3, 256, .inl (fun _ => 0))), (q_5, .inl (k_5, 256, .inl (fun _ => 0))), (q_7, .inl (k_7, 256, .inl (fun _ => 0))), (q_9, .inl (k_9, 256, .inl (fun _ => 0))), (q_11, .inl (k_11, 256, .inl (fun _ => 0))), (q_13, .inl (k_13, 256, .inl (fun _ => 0))), (q_15, .inl (k_15, 256, .inl (fun _ => 0))), (q_17, .inl (k_17, 256, .inl (fun _ => 0))), (q_19, .inl (k_19, 256, .inl (fun _ => 0))), (q_21, .inl (k_21, 256, .inl (fun _ => 0))), (q_23, .inl (k_23, 256, .inl (fun _ => 0))), (q_25, .inl (k_25, 256, .inl (fun _ => 0))), (q_27, .inl (k_27, 256, .inl (fun _ => 0))), (q_29, .inl (k_29, 256, .inl (fun _ => 0))), (q_32, .inl (k_32, 512, .inl (fun _ => 0))), (q_35, .inl (k_35, 512, .inl (fun _ => 0)))]) [0, 1, 2, 3, 4, 5, 6, 7, 8, 9, 10, 11, 12, 13, 14, 15, 16] rfl
  have hD9 := hD_36.sub (ws' := [(h0, .inr (13, [.int 0, .int 0, .int 0, .int 0, .ref q_3, .ref q_5, .ref q_7, .ref q_9, .ref q_11, .ref q_13, .ref q_15, .ref q_17, .ref q_19, .ref q_21, .ref q_23, .ref q_25, .ref q_27, .ref q_29, .ref q_32, .ref q_35])), (q_3, .inl (k_3, 256, .inl (fun _ => 0))), (q_5, .inl (k_5, 256, .inl (fun _ => 0))), (q_7, .inl (k_7, 256, .inl (fun _ => 0))), (q_9, .inl (k_9, 256, .inl (fun _ => 0))), (q_11, .inl (k_11, 256, .inl (fun _ => 0))), (q_13, .inl (k_13, 256, .inl (fun _ => 0))), (q_15, .inl (k_15, 256, .inl (fun _ => 0))), (q_17, .inl (k_17, 256, .inl (fun _ => 0))), (q_19, .inl (k_19, 256, .inl (fun _ => 0))), (q_21, .inl (k_21, 256, .inl (fun _ => 0))), (q_23, .inl (k_23, 256, .inl (fun _ => 0))), (q_25, .inl (k_25, 256, .inl (fun _ => 0))), (q_27, .inl (k_27, 256, .inl (fun _ => 0))), (q_29, .inl (k_29, 256, .inl (fun _ => 0))), (q_32, .inl (k_32, 512, .inl (fun _ => 0))), (q_35, .inl (k_35, 512, .inl (fun _ => 0)))]) [0, 1, 2, 3, 4, 5, 6, 7, 8, 9, 10, 11, 12, 13, 14, 15, 16] (by decide) rfl
  have hK9 := hK_35.sub (tys' := [(k_3, .int), (k_5, .int), (k_7, .int), (k_9, .int), (k_11, .int), (k_13, .int), (k_15, .int), (k_17, .int), (k_19, .int), (k_21, .int), (k_23, .int), (k_25, .boolean), (k_27, .boolean), (k_29, .boolean), (k_32, .int), (k_35, .int)]) [0, 1, 2, 3, 4, 5, 6, 7, 8, 9, 10, 11, 12, 13, 14, 15] rfl
  refine W.widen (k := 16) (n := 4608) (by decide) (by decide) ?_
  exact W.vret hx hb hr (fun t9 ht9 hW9 => ⟨⟨0, rfl, rfl, ⟨q_3, q_5, q_7, q_9, q_11, q_13, q_15, q_17, q_19, q_21, q_23, q_25, q_27, q_29, q_32, q_35, k_3, k_5, k_7, k_9, k_11, k_13, k_15, k_17, k_19, k_21, k_23, k_25, k_27, k_29, k_32, k_35, by rw [ht9]; exact hP9, va_K.moved hW9.alike hK9, hD9⟩⟩, hS_36.F ht9⟩) hS_36.2.2 dX10_init_130
set_option maxHeartbeats 4000000 in
set_option maxRecDepth 100000 in
theorem mt_X2_init (l : Launch) (dC : Nat → ClassId) (dI : Nat → Nat → Nat) (h0 : Nat) (sz : Nat) : Met l yX2_init (WS yX2_init cX2_init 1 none) ({ frames := 1, cells := 0, slots := 0, locals := 12 }) (va_Pc [.ref h0] (fun U => U.heap.size = sz ∧ va_P (dC, dI) vwCl [(h0, .inr (5, [.int 0, .int 0, .int 0, .int 0, .int 0, .int 0, .int 0, .int 0, .int 0, .int 0, .int 0]))] U.heap ∧ va_K (dC, dI) vwCl [] U ∧ va_D (fun _ => True) [(h0, .inr (5, [.int 0, .int 0, .int 0, .int 0, .int 0, .int 0, .int 0, .int 0, .int 0, .int 0, .int 0]))])) (va_Qv (fun (u : Nat) => (u = 0)) (fun (_ : Nat) (t : State) => (va_P (dC, dI) vwCl [(h0, .inr (5, [.int 0, .int 0, .int 0, .int 0, .int 0, .int 0, .int 0, .int 0, .int 0, .int 0, .int 0]))] t.heap ∧ va_K (dC, dI) vwCl [] t ∧ va_D (va_A [(h0, .inr (5, [.int 0, .int 0, .int 0, .int 0, .int 0, .int 0, .int 0, .int 0, .int 0, .int 0, .int 0]))] sz) [(h0, .inr (5, [.int 0, .int 0, .int 0, .int 0, .int 0, .int 0, .int 0, .int 0, .int 0, .int 0, .int 0]))])) (va_A [(h0, .inr (5, [.int 0, .int 0, .int 0, .int 0, .int 0, .int 0, .int 0, .int 0, .int 0, .int 0, .int 0]))] sz)) 0 0 (va_A [(h0, .inr (5, [.int 0, .int 0, .int 0, .int 0, .int 0, .int 0, .int 0, .int 0, .int 0, .int 0, .int 0]))] sz) := by
  refine Met.ofW (cc := cX2_init) (maxL := 1) (ret := none) (by decide) rfl ?_
  intro p e s m args below meth c s₁ B hml hv
  obtain ⟨rfl, hsz, hP, hK, hD0⟩ := hv
  have hx := B.exec
  have hb := B.bytes
  have hr := B.returns
  have hts := atoms_spec (ws := WS yX2_init cX2_init 1 none) B.pre
  have ht : ∀ w ∈ TW, w.before _ s = true := fun w h => hts w (List.mem_cons_of_mem _ h)
  have hown : s.vm.findClass "PatternWorkshop$Group" = some m.cls := findClass_of_methodNamed B.named
  have hlocks := B.notSynchronized
  have hin : meth.name = "<init>" := (name_of_methodNamed B.named B.method).1
  subst hsz
  have hD := hD0.self (sz := s.heap.size)
  generalize hAe : va_A [(h0, .inr (5, [.int 0, .int 0, .int 0, .int 0, .int 0, .int 0, .int 0, .int 0, .int 0, .int 0, .int 0]))] s.heap.size = A at hD ⊢
  have hA : ∀ q : Nat, s.heap.size ≤ q → A q := fun q h => by rw [← hAe]; exact Or.inr h
  have hS : va_S A s.heap s.heap [] := va_S.rf
  have hP : va_P (dC, dI) vwCl [(h0, .inr (5, [.int 0, .int 0, .int 0, .int 0, .int 0, .int 0, .int 0, .int 0, .int 0, .int 0, .int 0]))] s.heap := hP
  have hl := lv_entry ([.ref h0]) (n := 1) (Nat.le_of_ble_eq_true rfl)
  rw [lg_entry_eq]
  generalize (lg_sl ([.ref h0]) ++ List.replicate (1 - (lg_sl ([.ref h0])).length) Slot.unset).toArray = ls at hl ⊢
  have hl : lv_has ls 1 [(0, .ref h0)] := hl
  clear hD0
  refine lv_aload_n hx hb dX2_init_0 rfl (lv_at hl 0 rfl) ?_
  refine W.objInit hx hb hown (ht _ tw_389) (ht _ tw_265) (ht _ tw_266) rfl (by rw [hml]; exact hl.1) rfl dX2_init_1 (Nat.le_of_ble_eq_true rfl) (Nat.le_of_ble_eq_true rfl) ?_
  refine W.eq (g2 := F0 m 4 ls []) rfl ?_
  have hP9 := hP.sub (ws' := [(h0, .inr (5, [.int 0, .int 0, .int 0, .int 0, .int 0, .int 0, .int 0, .int 0, .int 0, .int 0, .int 0]))]) [0] rfl
  have hD9 := hD.sub (ws' := [(h0, .inr (5, [.int 0, .int 0, .int 0, .int 0, .int 0, .int 0, .int 0, .int 0, .int 0, .int 0, .int 0]))]) [0] (by decide) rfl
  have hK9 := hK.sub (tys' := []) [] rfl
  refine W.widen (k := 0) (n := 0) (by decide) (by decide) ?_
  exact W.vret hx hb hr (fun t9 ht9 hW9 => ⟨⟨0, rfl, rfl, ⟨by rw [ht9]; exact hP9, va_K.moved hW9.alike hK9, hD9⟩⟩, hS.F ht9⟩) hS.2.2 dX2_init_4
