set_option maxHeartbeats 4000000 in
set_option maxRecDepth 100000 in
theorem mt_X10_sortOf (l : Launch) (dC : Nat → ClassId) (dI : Nat → Nat → Nat) (h0 h1 h2 h3 h4 h5 h6 h7 h8 h9 h10 h11 h12 h13 h14 h15 h16 : Nat) (k0 : ClassId) (sz : Nat) : Met l yX10_sortOf (WS yX10_sortOf cX10_sortOf 2 (some (.int))) ({ frames := 0, cells := 0, slots := 0, locals := 0 }) (va_Pc [.ref h0, .int 0] (fun U => U.heap.size = sz ∧ va_P (dC, dI) vwCl [(h1, .inl (k0, 256, .inl (upd (fun _ => 0) 0 5))), (h0, .inr (13, [.int 0, .int 1, .int 0, .int 0, .ref h1, .ref h2, .ref h3, .ref h4, .ref h5, .ref h6, .ref h7, .ref h8, .ref h9, .ref h10, .ref h11, .ref h12, .ref h13, .ref h14, .ref h15, .ref h16]))] U.heap ∧ va_K (dC, dI) vwCl [(k0, .int)] U ∧ va_D (fun _ => True) [(h1, .inl (k0, 256, .inl (upd (fun _ => 0) 0 5))), (h0, .inr (13, [.int 0, .int 1, .int 0, .int 0, .ref h1, .ref h2, .ref h3, .ref h4, .ref h5, .ref h6, .ref h7, .ref h8, .ref h9, .ref h10, .ref h11, .ref h12, .ref h13, .ref h14, .ref h15, .ref h16]))])) (va_Qi (fun (r : Int32) (u : Nat) => (u = 0 ∧ r = 5)) (fun (_ : Nat) (t : State) => (va_P (dC, dI) vwCl [(h1, .inl (k0, 256, .inl (upd (fun _ => 0) 0 5))), (h0, .inr (13, [.int 0, .int 1, .int 0, .int 0, .ref h1, .ref h2, .ref h3, .ref h4, .ref h5, .ref h6, .ref h7, .ref h8, .ref h9, .ref h10, .ref h11, .ref h12, .ref h13, .ref h14, .ref h15, .ref h16]))] t.heap ∧ va_K (dC, dI) vwCl [(k0, .int)] t ∧ va_D (va_A [(h1, .inl (k0, 256, .inl (upd (fun _ => 0) 0 5))), (h0, .inr (13, [.int 0, .int 1, .int 0, .int 0, .ref h1, .ref h2, .ref h3, .ref h4, .ref h5, .ref h6, .ref h7, .ref h8, .ref h9, .ref h10, .ref h11, .ref h12, .ref h13, .ref h14, .ref h15, .ref h16]))] sz) [(h1, .inl (k0, 256, .inl (upd (fun _ => 0) 0 5))), (h0, .inr (13, [.int 0, .int 1, .int 0, .int 0, .ref h1, .ref h2, .ref h3, .ref h4, .ref h5, .ref h6, .ref h7, .ref h8, .ref h9, .ref h10, .ref h11, .ref h12, .ref h13, .ref h14, .ref h15, .ref h16]))])) (va_A [(h1, .inl (k0, 256, .inl (upd (fun _ => 0) 0 5))), (h0, .inr (13, [.int 0, .int 1, .int 0, .int 0, .ref h1, .ref h2, .ref h3, .ref h4, .ref h5, .ref h6, .ref h7, .ref h8, .ref h9, .ref h10, .ref h11, .ref h12, .ref h13, .ref h14, .ref h15, .ref h16]))] sz)) 0 0 (va_A [(h1, .inl (k0, 256, .inl (upd (fun _ => 0) 0 5))), (h0, .inr (13, [.int 0, .int 1, .int 0, .int 0, .ref h1, .ref h2, .ref h3, .ref h4, .ref h5, .ref h6, .ref h7, .ref h8, .ref h9, .ref h10, .ref h11, .ref h12, .ref h13, .ref h14, .ref h15, .ref h16]))] sz) := by
  refine Met.ofW (cc := cX10_sortOf) (maxL := 2) (ret := (some (.int))) (by decide) rfl ?_
  intro p e s m args below meth c s₁ B hml hv
  obtain ⟨rfl, hsz, hP, hK, hD0⟩ := hv
  have hx := B.exec
  have hb := B.bytes
  have hr := B.returns
  have hts := atoms_spec (ws := WS yX10_sortOf cX10_sortOf 2 (some (.int))) B.pre
  have ht : ∀ w ∈ TW, w.before _ s = true := fun w h => hts w (List.mem_cons_of_mem _ h)
  have hown : s.vm.findClass "PatternWorkshop$Tree" = some m.cls := findClass_of_methodNamed B.named
  have hlocks := B.notSynchronized
  subst hsz
  have hD := hD0.self (sz := s.heap.size)
  generalize hAe : va_A [(h1, .inl (k0, 256, .inl (upd (fun _ => 0) 0 5))), (h0, .inr (13, [.int 0, .int 1, .int 0, .int 0, .ref h1, .ref h2, .ref h3, .ref h4, .ref h5, .ref h6, .ref h7, .ref h8, .ref h9, .ref h10, .ref h11, .ref h12, .ref h13, .ref h14, .ref h15, .ref h16]))] s.heap.size = A at hD ⊢
  have hA : ∀ q : Nat, s.heap.size ≤ q → A q := fun q h => by rw [← hAe]; exact Or.inr h
  have hS : va_S A s.heap s.heap [] := va_S.rf
  have hP : va_P (dC, dI) vwCl [(h1, .inl (k0, 256, .inl (upd (fun _ => 0) 0 5))), (h0, .inr (13, [.int 0, .int 1, .int 0, .int 0, .ref h1, .ref h2, .ref h3, .ref h4, .ref h5, .ref h6, .ref h7, .ref h8, .ref h9, .ref h10, .ref h11, .ref h12, .ref h13, .ref h14, .ref h15, .ref h16]))] s.heap := hP
  have hl := lv_entry ([.ref h0, .int 0]) (n := 2) (Nat.le_of_ble_eq_true rfl)
  rw [lg_entry_eq]
  generalize (lg_sl ([.ref h0, .int 0]) ++ List.replicate (2 - (lg_sl ([.ref h0, .int 0])).length) Slot.unset).toArray = ls at hl ⊢
  have hl : lv_has ls 2 [(0, .ref h0), (1, .int 0)] := hl
  clear hD0
  refine lv_iload_n hx hb dX10_sortOf_0 rfl (lv_at hl 1 rfl) ?_
  refine lv_if_lt (tgt := 21) hx hb dX10_sortOf_1 (by decide) (fun c_ => absurd c_ (by decide)) (fun _ => ?_)
  refine lv_iload_n hx hb dX10_sortOf_4 rfl (lv_at hl 1 rfl) ?_
  refine lv_aload_n hx hb dX10_sortOf_5 rfl (lv_at hl 0 rfl) ?_
  refine va_get (D := (dC, dI)) (ci := 13) (v := .int 1) (C := RX10) (T := TX10) (N := 20) hx hb ht inX10 hown hK hP 1 rfl rfl 1 (by decide) (ht _ tw_319) (fun _ h9 => h9) rfl dX10_sortOf_6 ?_
  refine lv_icmp_ge (tgt := 21) hx hb dX10_sortOf_9 (by decide) (fun c_ => absurd c_ (by decide)) (fun _ => ?_)
  refine lv_aload_n hx hb dX10_sortOf_12 rfl (lv_at hl 0 rfl) ?_
  refine va_get (D := (dC, dI)) (ci := 13) (v := .ref h1) (C := RX10) (T := TX10) (N := 20) hx hb ht inX10 hown hK hP 1 rfl rfl 4 (by decide) (ht _ tw_327) (fun _ h9 => h9) rfl dX10_sortOf_13 ?_
  refine lv_iload_n hx hb dX10_sortOf_16 rfl (lv_at hl 1 rfl) ?_
  refine va_iald hx hb hK hP 0 0 rfl rfl (i := 0) (vpi (by decide)) dX10_sortOf_17 ?_
  refine W.eq (g2 := F0 m 18 ls [.int 5]) rfl ?_
  refine lv_goto (tgt := 22) hx hb dX10_sortOf_18 (by decide) ?_
  have hP9 := hP.sub (ws' := [(h1, .inl (k0, 256, .inl (upd (fun _ => 0) 0 5))), (h0, .inr (13, [.int 0, .int 1, .int 0, .int 0, .ref h1, .ref h2, .ref h3, .ref h4, .ref h5, .ref h6, .ref h7, .ref h8, .ref h9, .ref h10, .ref h11, .ref h12, .ref h13, .ref h14, .ref h15, .ref h16]))]) [0, 1] rfl
  have hD9 := hD.sub (ws' := [(h1, .inl (k0, 256, .inl (upd (fun _ => 0) 0 5))), (h0, .inr (13, [.int 0, .int 1, .int 0, .int 0, .ref h1, .ref h2, .ref h3, .ref h4, .ref h5, .ref h6, .ref h7, .ref h8, .ref h9, .ref h10, .ref h11, .ref h12, .ref h13, .ref h14, .ref h15, .ref h16]))]) [0, 1] (by decide) rfl
  have hK9 := hK.sub (tys' := [(k0, .int)]) [0] rfl
  refine W.widen (k := 0) (n := 0) (by decide) (by decide) ?_
  exact W.iret (v := 5) hx hb hr (fun t9 ht9 hW9 => ⟨⟨5, 0, rfl, ⟨rfl, rfl⟩, ⟨by rw [ht9]; exact hP9, va_K.moved hW9.alike hK9, hD9⟩⟩, hS.F ht9⟩) hS.2.2 dX10_sortOf_22
set_option maxHeartbeats 4000000 in
set_option maxRecDepth 100000 in
theorem mt_X10_copies (l : Launch) (dC : Nat → ClassId) (dI : Nat → Nat → Nat) (h0 h1 h2 h3 h4 h5 h6 h7 h8 h9 h10 h11 h12 h13 h14 h15 h16 : Nat) (k0 : ClassId) (sz : Nat) : Met l yX10_copies (WS yX10_copies cX10_copies 2 (some (.int))) ({ frames := 1, cells := 0, slots := 0, locals := 21 }) (va_Pc [.ref h0, .int 0] (fun U => U.heap.size = sz ∧ va_P (dC, dI) vwCl [(h1, .inl (k0, 256, .inl (upd (fun _ => 0) 0 5))), (h0, .inr (13, [.int 0, .int 1, .int 0, .int 0, .ref h1, .ref h2, .ref h3, .ref h4, .ref h5, .ref h6, .ref h7, .ref h8, .ref h9, .ref h10, .ref h11, .ref h12, .ref h13, .ref h14, .ref h15, .ref h16]))] U.heap ∧ va_K (dC, dI) vwCl [(k0, .int)] U ∧ va_D (fun _ => True) [(h1, .inl (k0, 256, .inl (upd (fun _ => 0) 0 5))), (h0, .inr (13, [.int 0, .int 1, .int 0, .int 0, .ref h1, .ref h2, .ref h3, .ref h4, .ref h5, .ref h6, .ref h7, .ref h8, .ref h9, .ref h10, .ref h11, .ref h12, .ref h13, .ref h14, .ref h15, .ref h16]))])) (va_Qi (fun (r : Int32) (u : Nat) => (u = 0 ∧ r = 1)) (fun (_ : Nat) (t : State) => (va_P (dC, dI) vwCl [(h1, .inl (k0, 256, .inl (upd (fun _ => 0) 0 5))), (h0, .inr (13, [.int 0, .int 1, .int 0, .int 0, .ref h1, .ref h2, .ref h3, .ref h4, .ref h5, .ref h6, .ref h7, .ref h8, .ref h9, .ref h10, .ref h11, .ref h12, .ref h13, .ref h14, .ref h15, .ref h16]))] t.heap ∧ va_K (dC, dI) vwCl [(k0, .int)] t ∧ va_D (va_A [(h1, .inl (k0, 256, .inl (upd (fun _ => 0) 0 5))), (h0, .inr (13, [.int 0, .int 1, .int 0, .int 0, .ref h1, .ref h2, .ref h3, .ref h4, .ref h5, .ref h6, .ref h7, .ref h8, .ref h9, .ref h10, .ref h11, .ref h12, .ref h13, .ref h14, .ref h15, .ref h16]))] sz) [(h1, .inl (k0, 256, .inl (upd (fun _ => 0) 0 5))), (h0, .inr (13, [.int 0, .int 1, .int 0, .int 0, .ref h1, .ref h2, .ref h3, .ref h4, .ref h5, .ref h6, .ref h7, .ref h8, .ref h9, .ref h10, .ref h11, .ref h12, .ref h13, .ref h14, .ref h15, .ref h16]))])) (va_A [(h1, .inl (k0, 256, .inl (upd (fun _ => 0) 0 5))), (h0, .inr (13, [.int 0, .int 1, .int 0, .int 0, .ref h1, .ref h2, .ref h3, .ref h4, .ref h5, .ref h6, .ref h7, .ref h8, .ref h9, .ref h10, .ref h11, .ref h12, .ref h13, .ref h14, .ref h15, .ref h16]))] sz)) 0 0 (va_A [(h1, .inl (k0, 256, .inl (upd (fun _ => 0) 0 5))), (h0, .inr (13, [.int 0, .int 1, .int 0, .int 0, .ref h1, .ref h2, .ref h3, .ref h4, .ref h5, .ref h6, .ref h7, .ref h8, .ref h9, .ref h10, .ref h11, .ref h12, .ref h13, .ref h14, .ref h15, .ref h16]))] sz) := by
  refine Met.ofW (cc := cX10_copies) (maxL := 2) (ret := (some (.int))) (by decide) rfl ?_
  intro p e s m args below meth c s₁ B hml hv
  obtain ⟨rfl, hsz, hP, hK, hD0⟩ := hv
  have hx := B.exec
  have hb := B.bytes
  have hr := B.returns
  have hts := atoms_spec (ws := WS yX10_copies cX10_copies 2 (some (.int))) B.pre
  have ht : ∀ w ∈ TW, w.before _ s = true := fun w h => hts w (List.mem_cons_of_mem _ h)
  have hown : s.vm.findClass "PatternWorkshop$Tree" = some m.cls := findClass_of_methodNamed B.named
  have hlocks := B.notSynchronized
  subst hsz
  have hD := hD0.self (sz := s.heap.size)
  generalize hAe : va_A [(h1, .inl (k0, 256, .inl (upd (fun _ => 0) 0 5))), (h0, .inr (13, [.int 0, .int 1, .int 0, .int 0, .ref h1, .ref h2, .ref h3, .ref h4, .ref h5, .ref h6, .ref h7, .ref h8, .ref h9, .ref h10, .ref h11, .ref h12, .ref h13, .ref h14, .ref h15, .ref h16]))] s.heap.size = A at hD ⊢
  have hA : ∀ q : Nat, s.heap.size ≤ q → A q := fun q h => by rw [← hAe]; exact Or.inr h
  have hS : va_S A s.heap s.heap [] := va_S.rf
  have hP : va_P (dC, dI) vwCl [(h1, .inl (k0, 256, .inl (upd (fun _ => 0) 0 5))), (h0, .inr (13, [.int 0, .int 1, .int 0, .int 0, .ref h1, .ref h2, .ref h3, .ref h4, .ref h5, .ref h6, .ref h7, .ref h8, .ref h9, .ref h10, .ref h11, .ref h12, .ref h13, .ref h14, .ref h15, .ref h16]))] s.heap := hP
  have hl := lv_entry ([.ref h0, .int 0]) (n := 2) (Nat.le_of_ble_eq_true rfl)
  rw [lg_entry_eq]
  generalize (lg_sl ([.ref h0, .int 0]) ++ List.replicate (2 - (lg_sl ([.ref h0, .int 0])).length) Slot.unset).toArray = ls at hl ⊢
  have hl : lv_has ls 2 [(0, .ref h0), (1, .int 0)] := hl
  clear hD0
  refine lv_aload_n hx hb dX10_copies_0 rfl (lv_at hl 0 rfl) ?_
  refine lv_iload_n hx hb dX10_copies_1 rfl (lv_at hl 1 rfl) ?_
  have hPc_1 := hP.sub (ws' := [(h1, .inl (k0, 256, .inl (upd (fun _ => 0) 0 5))), (h0, .inr (13, [.int 0, .int 1, .int 0, .int 0, .ref h1, .ref h2, .ref h3, .ref h4, .ref h5, .ref h6, .ref h7, .ref h8, .ref h9, .ref h10, .ref h11, .ref h12, .ref h13, .ref h14, .ref h15, .ref h16]))]) [0, 1] rfl
  have hDc_1 := hD.sub (ws' := [(h1, .inl (k0, 256, .inl (upd (fun _ => 0) 0 5))), (h0, .inr (13, [.int 0, .int 1, .int 0, .int 0, .ref h1, .ref h2, .ref h3, .ref h4, .ref h5, .ref h6, .ref h7, .ref h8, .ref h9, .ref h10, .ref h11, .ref h12, .ref h13, .ref h14, .ref h15, .ref h16]))]) [0, 1] (by decide) rfl
  have hKc_1 := hK.sub (tys' := [(k0, .int)]) [0] rfl
  have hFc_1 := va_free (wc := [(h1, .inl (k0, 256, .inl (upd (fun _ => 0) 0 5))), (h0, .inr (13, [.int 0, .int 1, .int 0, .int 0, .ref h1, .ref h2, .ref h3, .ref h4, .ref h5, .ref h6, .ref h7, .ref h8, .ref h9, .ref h10, .ref h11, .ref h12, .ref h13, .ref h14, .ref h15, .ref h16]))]) hD hS hA [0, 1] rfl
  refine va_calli (va_runV (As := [.int 0]) (rest := []) ⟨hx, hb, hml, hown, ht⟩ (mt_X10_sortOf l dC dI h0 h1 h2 h3 h4 h5 h6 h7 h8 h9 h10 h11 h12 h13 h14 h15 h16 k0 s.heap.size) (cwV 1 ht (goodV tw_1101 tw_1102 tw_1103 tw_240 gw_X10_sortOf) rfl rfl rfl (by decide +kernel) ⟨Nat.le_of_ble_eq_true rfl, Nat.le_of_ble_eq_true rfl⟩) ⟨fun a U g mk q => by obtain ⟨q0, q1, qP, qK, qD⟩ := q; exact ⟨q0, q1, qP, va_K.moved (u := U) (U := U.calling g mk a) (Vm.Alike.refl U.vm) qK, qD⟩, va_recv hKc_1 hPc_1 (ci := 13) (q0 := 1) rfl rfl, fun U hU hW => ⟨rfl, by rw [hU], by rw [hU]; exact hPc_1, va_K.moved hW.alike hKc_1, hDc_1.weaken (fun _ _ _ _ => trivial)⟩⟩ rfl rfl hl.1 rfl (lv_room (Nat.le_of_ble_eq_true rfl)) dX10_copies_2 ⟨Nat.le_of_ble_eq_true rfl, Nat.le_of_ble_eq_true rfl⟩) hS (fun q _ h => hFc_1 q h) hFc_1 (fun r_1 u_1 t_1 H_1 locs_1 ht_1 hvm_1 hw_1 hB_1 hz_1 hk_1 hS_1 => ?_)
  obtain ⟨rfl, rfl⟩ := hw_1
  obtain ⟨hP1_1, hK1_1, hD1_1⟩ := hB_1
  rw [ht_1] at hP1_1
  have hK1_1 := va_K.moved hvm_1.symm hK1_1
  obtain ⟨hP_1, hD_1⟩ := va_join (wr := []) (w1 := [(h1, .inl (k0, 256, .inl (upd (fun _ => 0) 0 5))), (h0, .inr (13, [.int 0, .int 1, .int 0, .int 0, .ref h1, .ref h2, .ref h3, .ref h4, .ref h5, .ref h6, .ref h7, .ref h8, .ref h9, .ref h10, .ref h11, .ref h12, .ref h13, .ref h14, .ref h15, .ref h16]))]) hP hD [0, 1] [] rfl rfl (by decide) (by decide) hk_1 hFc_1 hP1_1 hD1_1
  have hK_1 := (hK.sub (tys' := []) [] rfl).app hK1_1
  have hK_1 : va_K (dC, dI) vwCl [(k0, .int)] s := hK_1
  have hP_1 : va_P (dC, dI) vwCl [(h1, .inl (k0, 256, .inl (upd (fun _ => 0) 0 5))), (h0, .inr (13, [.int 0, .int 1, .int 0, .int 0, .ref h1, .ref h2, .ref h3, .ref h4, .ref h5, .ref h6, .ref h7, .ref h8, .ref h9, .ref h10, .ref h11, .ref h12, .ref h13, .ref h14, .ref h15, .ref h16]))] H_1 := hP_1
  have hD_1 : va_D A [(h1, .inl (k0, 256, .inl (upd (fun _ => 0) 0 5))), (h0, .inr (13, [.int 0, .int 1, .int 0, .int 0, .ref h1, .ref h2, .ref h3, .ref h4, .ref h5, .ref h6, .ref h7, .ref h8, .ref h9, .ref h10, .ref h11, .ref h12, .ref h13, .ref h14, .ref h15, .ref h16]))] := hD_1
  clear hP hD hS hK hPc_1 hDc_1 hKc_1 hFc_1 hP1_1 hK1_1 hD1_1 hk_1 hz_1
  refine lv_bipush (v := 7) hx hb dX10_copies_5 (by decide) ?_
  refine lv_icmp_eq (tgt := 12) hx hb dX10_copies_7 (by decide) (fun c_ => absurd c_ (by decide)) (fun _ => ?_)
  refine lv_iconst (v := 1) hx hb dX10_copies_10 (by decide) ?_
  have hP9 := hP_1.sub (ws' := [(h1, .inl (k0, 256, .inl (upd (fun _ => 0) 0 5))), (h0, .inr (13, [.int 0, .int 1, .int 0, .int 0, .ref h1, .ref h2, .ref h3, .ref h4, .ref h5, .ref h6, .ref h7, .ref h8, .ref h9, .ref h10, .ref h11, .ref h12, .ref h13, .ref h14, .ref h15, .ref h16]))]) [0, 1] rfl
  have hD9 := hD_1.sub (ws' := [(h1, .inl (k0, 256, .inl (upd (fun _ => 0) 0 5))), (h0, .inr (13, [.int 0, .int 1, .int 0, .int 0, .ref h1, .ref h2, .ref h3, .ref h4, .ref h5, .ref h6, .ref h7, .ref h8, .ref h9, .ref h10, .ref h11, .ref h12, .ref h13, .ref h14, .ref h15, .ref h16]))]) [0, 1] (by decide) rfl
  have hK9 := hK_1.sub (tys' := [(k0, .int)]) [0] rfl
  refine W.widen (k := 0) (n := 0) (by decide) (by decide) ?_
  exact W.iret (v := 1) hx hb hr (fun t9 ht9 hW9 => ⟨⟨1, 0, rfl, ⟨rfl, rfl⟩, ⟨by rw [ht9]; exact hP9, va_K.moved hW9.alike hK9, hD9⟩⟩, hS_1.F ht9⟩) hS_1.2.2 dX10_copies_11
set_option maxHeartbeats 4000000 in
set_option maxRecDepth 100000 in
theorem mt_X10_takesOneSign (l : Launch) (dC : Nat → ClassId) (dI : Nat → Nat → Nat) (h0 h1 h2 h3 h4 h5 h6 h7 h8 h9 h10 h11 h12 h13 h14 h15 h16 : Nat) (k0 : ClassId) (sz : Nat) : Met l yX10_takesOneSign (WS yX10_takesOneSign cX10_takesOneSign 2 (some (.boolean))) ({ frames := 1, cells := 0, slots := 0, locals := 21 }) (va_Pc [.ref h0, .int 0] (fun U => U.heap.size = sz ∧ va_P (dC, dI) vwCl [(h1, .inl (k0, 256, .inl (upd (fun _ => 0) 0 5))), (h0, .inr (13, [.int 0, .int 1, .int 0, .int 0, .ref h1, .ref h2, .ref h3, .ref h4, .ref h5, .ref h6, .ref h7, .ref h8, .ref h9, .ref h10, .ref h11, .ref h12, .ref h13, .ref h14, .ref h15, .ref h16]))] U.heap ∧ va_K (dC, dI) vwCl [(k0, .int)] U ∧ va_D (fun _ => True) [(h1, .inl (k0, 256, .inl (upd (fun _ => 0) 0 5))), (h0, .inr (13, [.int 0, .int 1, .int 0, .int 0, .ref h1, .ref h2, .ref h3, .ref h4, .ref h5, .ref h6, .ref h7, .ref h8, .ref h9, .ref h10, .ref h11, .ref h12, .ref h13, .ref h14, .ref h15, .ref h16]))])) (va_Qi (fun (r : Int32) (u : Nat) => (u = 0 ∧ r = 0)) (fun (_ : Nat) (t : State) => (va_P (dC, dI) vwCl [(h1, .inl (k0, 256, .inl (upd (fun _ => 0) 0 5))), (h0, .inr (13, [.int 0, .int 1, .int 0, .int 0, .ref h1, .ref h2, .ref h3, .ref h4, .ref h5, .ref h6, .ref h7, .ref h8, .ref h9, .ref h10, .ref h11, .ref h12, .ref h13, .ref h14, .ref h15, .ref h16]))] t.heap ∧ va_K (dC, dI) vwCl [(k0, .int)] t ∧ va_D (va_A [(h1, .inl (k0, 256, .inl (upd (fun _ => 0) 0 5))), (h0, .inr (13, [.int 0, .int 1, .int 0, .int 0, .ref h1, .ref h2, .ref h3, .ref h4, .ref h5, .ref h6, .ref h7, .ref h8, .ref h9, .ref h10, .ref h11, .ref h12, .ref h13, .ref h14, .ref h15, .ref h16]))] sz) [(h1, .inl (k0, 256, .inl (upd (fun _ => 0) 0 5))), (h0, .inr (13, [.int 0, .int 1, .int 0, .int 0, .ref h1, .ref h2, .ref h3, .ref h4, .ref h5, .ref h6, .ref h7, .ref h8, .ref h9, .ref h10, .ref h11, .ref h12, .ref h13, .ref h14, .ref h15, .ref h16]))])) (va_A [(h1, .inl (k0, 256, .inl (upd (fun _ => 0) 0 5))), (h0, .inr (13, [.int 0, .int 1, .int 0, .int 0, .ref h1, .ref h2, .ref h3, .ref h4, .ref h5, .ref h6, .ref h7, .ref h8, .ref h9, .ref h10, .ref h11, .ref h12, .ref h13, .ref h14, .ref h15, .ref h16]))] sz)) 0 0 (va_A [(h1, .inl (k0, 256, .inl (upd (fun _ => 0) 0 5))), (h0, .inr (13, [.int 0, .int 1, .int 0, .int 0, .ref h1, .ref h2, .ref h3, .ref h4, .ref h5, .ref h6, .ref h7, .ref h8, .ref h9, .ref h10, .ref h11, .ref h12, .ref h13, .ref h14, .ref h15, .ref h16]))] sz) := by
  refine Met.ofW (cc := cX10_takesOneSign) (maxL := 2) (ret := (some (.boolean))) (by decide) rfl ?_
  intro p e s m args below meth c s₁ B hml hv
  obtain ⟨rfl, hsz, hP, hK, hD0⟩ := hv
  have hx := B.exec
  have hb := B.bytes
  have hr := B.returns
  have hts := atoms_spec (ws := WS yX10_takesOneSign cX10_takesOneSign 2 (some (.boolean))) B.pre
  have ht : ∀ w ∈ TW, w.before _ s = true := fun w h => hts w (List.mem_cons_of_mem _ h)
  have hown : s.vm.findClass "PatternWorkshop$Tree" = some m.cls := findClass_of_methodNamed B.named
  have hlocks := B.notSynchronized
  subst hsz
  have hD := hD0.self (sz := s.heap.size)
  generalize hAe : va_A [(h1, .inl (k0, 256, .inl (upd (fun _ => 0) 0 5))), (h0, .inr (13, [.int 0, .int 1, .int 0, .int 0, .ref h1, .ref h2, .ref h3, .ref h4, .ref h5, .ref h6, .ref h7, .ref h8, .ref h9, .ref h10, .ref h11, .ref h12, .ref h13, .ref h14, .ref h15, .ref h16]))] s.heap.size = A at hD ⊢
  have hA : ∀ q : Nat, s.heap.size ≤ q → A q := fun q h => by rw [← hAe]; exact Or.inr h
  have hS : va_S A s.heap s.heap [] := va_S.rf
  have hP : va_P (dC, dI) vwCl [(h1, .inl (k0, 256, .inl (upd (fun _ => 0) 0 5))), (h0, .inr (13, [.int 0, .int 1, .int 0, .int 0, .ref h1, .ref h2, .ref h3, .ref h4, .ref h5, .ref h6, .ref h7, .ref h8, .ref h9, .ref h10, .ref h11, .ref h12, .ref h13, .ref h14, .ref h15, .ref h16]))] s.heap := hP
  have hl := lv_entry ([.ref h0, .int 0]) (n := 2) (Nat.le_of_ble_eq_true rfl)
  rw [lg_entry_eq]
  generalize (lg_sl ([.ref h0, .int 0]) ++ List.replicate (2 - (lg_sl ([.ref h0, .int 0])).length) Slot.unset).toArray = ls at hl ⊢
  have hl : lv_has ls 2 [(0, .ref h0), (1, .int 0)] := hl
  clear hD0
  refine lv_aload_n hx hb dX10_takesOneSign_0 rfl (lv_at hl 0 rfl) ?_
  refine lv_iload_n hx hb dX10_takesOneSign_1 rfl (lv_at hl 1 rfl) ?_
  have hPc_1 := hP.sub (ws' := [(h1, .inl (k0, 256, .inl (upd (fun _ => 0) 0 5))), (h0, .inr (13, [.int 0, .int 1, .int 0, .int 0, .ref h1, .ref h2, .ref h3, .ref h4, .ref h5, .ref h6, .ref h7, .ref h8, .ref h9, .ref h10, .ref h11, .ref h12, .ref h13, .ref h14, .ref h15, .ref h16]))]) [0, 1] rfl
  have hDc_1 := hD.sub (ws' := [(h1, .inl (k0, 256, .inl (upd (fun _ => 0) 0 5))), (h0, .inr (13, [.int 0, .int 1, .int 0, .int 0, .ref h1, .ref h2, .ref h3, .ref h4, .ref h5, .ref h6, .ref h7, .ref h8, .ref h9, .ref h10, .ref h11, .ref h12, .ref h13, .ref h14, .ref h15, .ref h16]))]) [0, 1] (by decide) rfl
  have hKc_1 := hK.sub (tys' := [(k0, .int)]) [0] rfl
  have hFc_1 := va_free (wc := [(h1, .inl (k0, 256, .inl (upd (fun _ => 0) 0 5))), (h0, .inr (13, [.int 0, .int 1, .int 0, .int 0, .ref h1, .ref h2, .ref h3, .ref h4, .ref h5, .ref h6, .ref h7, .ref h8, .ref h9, .ref h10, .ref h11, .ref h12, .ref h13, .ref h14, .ref h15, .ref h16]))]) hD hS hA [0, 1] rfl
  refine va_calli (va_runV (As := [.int 0]) (rest := []) ⟨hx, hb, hml, hown, ht⟩ (mt_X10_sortOf l dC dI h0 h1 h2 h3 h4 h5 h6 h7 h8 h9 h10 h11 h12 h13 h14 h15 h16 k0 s.heap.size) (cwV 1 ht (goodV tw_1101 tw_1102 tw_1103 tw_240 gw_X10_sortOf) rfl rfl rfl (by decide +kernel) ⟨Nat.le_of_ble_eq_true rfl, Nat.le_of_ble_eq_true rfl⟩) ⟨fun a U g mk q => by obtain ⟨q0, q1, qP, qK, qD⟩ := q; exact ⟨q0, q1, qP, va_K.moved (u := U) (U := U.calling g mk a) (Vm.Alike.refl U.vm) qK, qD⟩, va_recv hKc_1 hPc_1 (ci := 13) (q0 := 1) rfl rfl, fun U hU hW => ⟨rfl, by rw [hU], by rw [hU]; exact hPc_1, va_K.moved hW.alike hKc_1, hDc_1.weaken (fun _ _ _ _ => trivial)⟩⟩ rfl rfl hl.1 rfl (lv_room (Nat.le_of_ble_eq_true rfl)) dX10_takesOneSign_2 ⟨Nat.le_of_ble_eq_true rfl, Nat.le_of_ble_eq_true rfl⟩) hS (fun q _ h => hFc_1 q h) hFc_1 (fun r_1 u_1 t_1 H_1 locs_1 ht_1 hvm_1 hw_1 hB_1 hz_1 hk_1 hS_1 => ?_)
  obtain ⟨rfl, rfl⟩ := hw_1
  obtain ⟨hP1_1, hK1_1, hD1_1⟩ := hB_1
  rw [ht_1] at hP1_1
  have hK1_1 := va_K.moved hvm_1.symm hK1_1
  obtain ⟨hP_1, hD_1⟩ := va_join (wr := []) (w1 := [(h1, .inl (k0, 256, .inl (upd (fun _ => 0) 0 5))), (h0, .inr (13, [.int 0, .int 1, .int 0, .int 0, .ref h1, .ref h2, .ref h3, .ref h4, .ref h5, .ref h6, .ref h7, .ref h8, .ref h9, .ref h10, .ref h11, .ref h12, .ref h13, .ref h14, .ref h15, .ref h16]))]) hP hD [0, 1] [] rfl rfl (by decide) (by decide) hk_1 hFc_1 hP1_1 hD1_1
  have hK_1 := (hK.sub (tys' := []) [] rfl).app hK1_1
  have hK_1 : va_K (dC, dI) vwCl [(k0, .int)] s := hK_1
  have hP_1 : va_P (dC, dI) vwCl [(h1, .inl (k0, 256, .inl (upd (fun _ => 0) 0 5))), (h0, .inr (13, [.int 0, .int 1, .int 0, .int 0, .ref h1, .ref h2, .ref h3, .ref h4, .ref h5, .ref h6, .ref h7, .ref h8, .ref h9, .ref h10, .ref h11, .ref h12, .ref h13, .ref h14, .ref h15, .ref h16]))] H_1 := hP_1
  have hD_1 : va_D A [(h1, .inl (k0, 256, .inl (upd (fun _ => 0) 0 5))), (h0, .inr (13, [.int 0, .int 1, .int 0, .int 0, .ref h1, .ref h2, .ref h3, .ref h4, .ref h5, .ref h6, .ref h7, .ref h8, .ref h9, .ref h10, .ref h11, .ref h12, .ref h13, .ref h14, .ref h15, .ref h16]))] := hD_1
  clear hP hD hS hK hPc_1 hDc_1 hKc_1 hFc_1 hP1_1 hK1_1 hD1_1 hk_1 hz_1
  refine lv_iconst (v := 2) hx hb dX10_takesOneSign_5 (by decide) ?_
  refine lv_icmp_gt (tgt := 13) hx hb dX10_takesOneSign_6 (by decide) (fun _ => ?_) (fun c_ => absurd (by decide) c_)
  refine lv_iconst (v := 0) hx hb dX10_takesOneSign_13 (by decide) ?_
  have hP9 := hP_1.sub (ws' := [(h1, .inl (k0, 256, .inl (upd (fun _ => 0) 0 5))), (h0, .inr (13, [.int 0, .int 1, .int 0, .int 0, .ref h1, .ref h2, .ref h3, .ref h4, .ref h5, .ref h6, .ref h7, .ref h8, .ref h9, .ref h10, .ref h11, .ref h12, .ref h13, .ref h14, .ref h15, .ref h16]))]) [0, 1] rfl
  have hD9 := hD_1.sub (ws' := [(h1, .inl (k0, 256, .inl (upd (fun _ => 0) 0 5))), (h0, .inr (13, [.int 0, .int 1, .int 0, .int 0, .ref h1, .ref h2, .ref h3, .ref h4, .ref h5, .ref h6, .ref h7, .ref h8, .ref h9, .ref h10, .ref h11, .ref h12, .ref h13, .ref h14, .ref h15, .ref h16]))]) [0, 1] (by decide) rfl
  have hK9 := hK_1.sub (tys' := [(k0, .int)]) [0] rfl
  refine W.widen (k := 0) (n := 0) (by decide) (by decide) ?_
  exact W.zret (v := 0) hx hb hr rfl (fun t9 ht9 hW9 => ⟨⟨0, 0, rfl, ⟨rfl, rfl⟩, ⟨by rw [ht9]; exact hP9, va_K.moved hW9.alike hK9, hD9⟩⟩, hS_1.F ht9⟩) hS_1.2.2 dX10_takesOneSign_14
set_option maxHeartbeats 4000000 in
set_option maxRecDepth 100000 in
theorem mt_X10_maybeEmpty (l : Launch) (dC : Nat → ClassId) (dI : Nat → Nat → Nat) (h0 h1 h2 h3 h4 h5 h6 h7 h8 h9 h10 h11 h12 h13 h14 h15 h16 : Nat) (k0 : ClassId) (sz : Nat) : Met l yX10_maybeEmpty (WS yX10_maybeEmpty cX10_maybeEmpty 4 (some (.boolean))) ({ frames := 1, cells := 0, slots := 0, locals := 21 }) (va_Pc [.ref h0, .int 0, .int 1, .int 0] (fun U => U.heap.size = sz ∧ va_P (dC, dI) vwCl [(h1, .inl (k0, 256, .inl (upd (fun _ => 0) 0 5))), (h0, .inr (13, [.int 0, .int 1, .int 0, .int 0, .ref h1, .ref h2, .ref h3, .ref h4, .ref h5, .ref h6, .ref h7, .ref h8, .ref h9, .ref h10, .ref h11, .ref h12, .ref h13, .ref h14, .ref h15, .ref h16]))] U.heap ∧ va_K (dC, dI) vwCl [(k0, .int)] U ∧ va_D (fun _ => True) [(h1, .inl (k0, 256, .inl (upd (fun _ => 0) 0 5))), (h0, .inr (13, [.int 0, .int 1, .int 0, .int 0, .ref h1, .ref h2, .ref h3, .ref h4, .ref h5, .ref h6, .ref h7, .ref h8, .ref h9, .ref h10, .ref h11, .ref h12, .ref h13, .ref h14, .ref h15, .ref h16]))])) (va_Qi (fun (r : Int32) (u : Nat) => (u = 0 ∧ r = 1)) (fun (_ : Nat) (t : State) => (va_P (dC, dI) vwCl [(h1, .inl (k0, 256, .inl (upd (fun _ => 0) 0 5))), (h0, .inr (13, [.int 0, .int 1, .int 0, .int 0, .ref h1, .ref h2, .ref h3, .ref h4, .ref h5, .ref h6, .ref h7, .ref h8, .ref h9, .ref h10, .ref h11, .ref h12, .ref h13, .ref h14, .ref h15, .ref h16]))] t.heap ∧ va_K (dC, dI) vwCl [(k0, .int)] t ∧ va_D (va_A [(h1, .inl (k0, 256, .inl (upd (fun _ => 0) 0 5))), (h0, .inr (13, [.int 0, .int 1, .int 0, .int 0, .ref h1, .ref h2, .ref h3, .ref h4, .ref h5, .ref h6, .ref h7, .ref h8, .ref h9, .ref h10, .ref h11, .ref h12, .ref h13, .ref h14, .ref h15, .ref h16]))] sz) [(h1, .inl (k0, 256, .inl (upd (fun _ => 0) 0 5))), (h0, .inr (13, [.int 0, .int 1, .int 0, .int 0, .ref h1, .ref h2, .ref h3, .ref h4, .ref h5, .ref h6, .ref h7, .ref h8, .ref h9, .ref h10, .ref h11, .ref h12, .ref h13, .ref h14, .ref h15, .ref h16]))])) (va_A [(h1, .inl (k0, 256, .inl (upd (fun _ => 0) 0 5))), (h0, .inr (13, [.int 0, .int 1, .int 0, .int 0, .ref h1, .ref h2, .ref h3, .ref h4, .ref h5, .ref h6, .ref h7, .ref h8, .ref h9, .ref h10, .ref h11, .ref h12, .ref h13, .ref h14, .ref h15, .ref h16]))] sz)) 0 0 (va_A [(h1, .inl (k0, 256, .inl (upd (fun _ => 0) 0 5))), (h0, .inr (13, [.int 0, .int 1, .int 0, .int 0, .ref h1, .ref h2, .ref h3, .ref h4, .ref h5, .ref h6, .ref h7, .ref h8, .ref h9, .ref h10, .ref h11, .ref h12, .ref h13, .ref h14, .ref h15, .ref h16]))] sz) := by
  refine Met.ofW (cc := cX10_maybeEmpty) (maxL := 4) (ret := (some (.boolean))) (by decide) rfl ?_
  intro p e s m args below meth c s₁ B hml hv
  obtain ⟨rfl, hsz, hP, hK, hD0⟩ := hv
  have hx := B.exec
  have hb := B.bytes
  have hr := B.returns
  have hts := atoms_spec (ws := WS yX10_maybeEmpty cX10_maybeEmpty 4 (some (.boolean))) B.pre
  have ht : ∀ w ∈ TW, w.before _ s = true := fun w h => hts w (List.mem_cons_of_mem _ h)
  have hown : s.vm.findClass "PatternWorkshop$Tree" = some m.cls := findClass_of_methodNamed B.named
  have hlocks := B.notSynchronized
  subst hsz
  have hD := hD0.self (sz := s.heap.size)
  generalize hAe : va_A [(h1, .inl (k0, 256, .inl (upd (fun _ => 0) 0 5))), (h0, .inr (13, [.int 0, .int 1, .int 0, .int 0, .ref h1, .ref h2, .ref h3, .ref h4, .ref h5, .ref h6, .ref h7, .ref h8, .ref h9, .ref h10, .ref h11, .ref h12, .ref h13, .ref h14, .ref h15, .ref h16]))] s.heap.size = A at hD ⊢
  have hA : ∀ q : Nat, s.heap.size ≤ q → A q := fun q h => by rw [← hAe]; exact Or.inr h
  have hS : va_S A s.heap s.heap [] := va_S.rf
  have hP : va_P (dC, dI) vwCl [(h1, .inl (k0, 256, .inl (upd (fun _ => 0) 0 5))), (h0, .inr (13, [.int 0, .int 1, .int 0, .int 0, .ref h1, .ref h2, .ref h3, .ref h4, .ref h5, .ref h6, .ref h7, .ref h8, .ref h9, .ref h10, .ref h11, .ref h12, .ref h13, .ref h14, .ref h15, .ref h16]))] s.heap := hP
  have hl := lv_entry ([.ref h0, .int 0, .int 1, .int 0]) (n := 4) (Nat.le_of_ble_eq_true rfl)
  rw [lg_entry_eq]
  generalize (lg_sl ([.ref h0, .int 0, .int 1, .int 0]) ++ List.replicate (4 - (lg_sl ([.ref h0, .int 0, .int 1, .int 0])).length) Slot.unset).toArray = ls at hl ⊢
  have hl : lv_has ls 4 [(0, .ref h0), (1, .int 0), (2, .int 1), (3, .int 0)] := hl
  clear hD0
  refine lv_aload_n hx hb dX10_maybeEmpty_0 rfl (lv_at hl 0 rfl) ?_
  refine lv_iload_n hx hb dX10_maybeEmpty_1 rfl (lv_at hl 1 rfl) ?_
  have hPc_1 := hP.sub (ws' := [(h1, .inl (k0, 256, .inl (upd (fun _ => 0) 0 5))), (h0, .inr (13, [.int 0, .int 1, .int 0, .int 0, .ref h1, .ref h2, .ref h3, .ref h4, .ref h5, .ref h6, .ref h7, .ref h8, .ref h9, .ref h10, .ref h11, .ref h12, .ref h13, .ref h14, .ref h15, .ref h16]))]) [0, 1] rfl
  have hDc_1 := hD.sub (ws' := [(h1, .inl (k0, 256, .inl (upd (fun _ => 0) 0 5))), (h0, .inr (13, [.int 0, .int 1, .int 0, .int 0, .ref h1, .ref h2, .ref h3, .ref h4, .ref h5, .ref h6, .ref h7, .ref h8, .ref h9, .ref h10, .ref h11, .ref h12, .ref h13, .ref h14, .ref h15, .ref h16]))]) [0, 1] (by decide) rfl
  have hKc_1 := hK.sub (tys' := [(k0, .int)]) [0] rfl
  have hFc_1 := va_free (wc := [(h1, .inl (k0, 256, .inl (upd (fun _ => 0) 0 5))), (h0, .inr (13, [.int 0, .int 1, .int 0, .int 0, .ref h1, .ref h2, .ref h3, .ref h4, .ref h5, .ref h6, .ref h7, .ref h8, .ref h9, .ref h10, .ref h11, .ref h12, .ref h13, .ref h14, .ref h15, .ref h16]))]) hD hS hA [0, 1] rfl
  refine va_calli (va_runV (As := [.int 0]) (rest := []) ⟨hx, hb, hml, hown, ht⟩ (mt_X10_sortOf l dC dI h0 h1 h2 h3 h4 h5 h6 h7 h8 h9 h10 h11 h12 h13 h14 h15 h16 k0 s.heap.size) (cwV 1 ht (goodV tw_1101 tw_1102 tw_1103 tw_240 gw_X10_sortOf) rfl rfl rfl (by decide +kernel) ⟨Nat.le_of_ble_eq_true rfl, Nat.le_of_ble_eq_true rfl⟩) ⟨fun a U g mk q => by obtain ⟨q0, q1, qP, qK, qD⟩ := q; exact ⟨q0, q1, qP, va_K.moved (u := U) (U := U.calling g mk a) (Vm.Alike.refl U.vm) qK, qD⟩, va_recv hKc_1 hPc_1 (ci := 13) (q0 := 1) rfl rfl, fun U hU hW => ⟨rfl, by rw [hU], by rw [hU]; exact hPc_1, va_K.moved hW.alike hKc_1, hDc_1.weaken (fun _ _ _ _ => trivial)⟩⟩ rfl rfl hl.1 rfl (lv_room (Nat.le_of_ble_eq_true rfl)) dX10_maybeEmpty_2 ⟨Nat.le_of_ble_eq_true rfl, Nat.le_of_ble_eq_true rfl⟩) hS (fun q _ h => hFc_1 q h) hFc_1 (fun r_1 u_1 t_1 H_1 locs_1 ht_1 hvm_1 hw_1 hB_1 hz_1 hk_1 hS_1 => ?_)
  obtain ⟨rfl, rfl⟩ := hw_1
  obtain ⟨hP1_1, hK1_1, hD1_1⟩ := hB_1
  rw [ht_1] at hP1_1
  have hK1_1 := va_K.moved hvm_1.symm hK1_1
  obtain ⟨hP_1, hD_1⟩ := va_join (wr := []) (w1 := [(h1, .inl (k0, 256, .inl (upd (fun _ => 0) 0 5))), (h0, .inr (13, [.int 0, .int 1, .int 0, .int 0, .ref h1, .ref h2, .ref h3, .ref h4, .ref h5, .ref h6, .ref h7, .ref h8, .ref h9, .ref h10, .ref h11, .ref h12, .ref h13, .ref h14, .ref h15, .ref h16]))]) hP hD [0, 1] [] rfl rfl (by decide) (by decide) hk_1 hFc_1 hP1_1 hD1_1
  have hK_1 := (hK.sub (tys' := []) [] rfl).app hK1_1
  have hK_1 : va_K (dC, dI) vwCl [(k0, .int)] s := hK_1
  have hP_1 : va_P (dC, dI) vwCl [(h1, .inl (k0, 256, .inl (upd (fun _ => 0) 0 5))), (h0, .inr (13, [.int 0, .int 1, .int 0, .int 0, .ref h1, .ref h2, .ref h3, .ref h4, .ref h5, .ref h6, .ref h7, .ref h8, .ref h9, .ref h10, .ref h11, .ref h12, .ref h13, .ref h14, .ref h15, .ref h16]))] H_1 := hP_1
  have hD_1 : va_D A [(h1, .inl (k0, 256, .inl (upd (fun _ => 0) 0 5))), (h0, .inr (13, [.int 0, .int 1, .int 0, .int 0, .ref h1, .ref h2, .ref h3, .ref h4, .ref h5, .ref h6, .ref h7, .ref h8, .ref h9, .ref h10, .ref h11, .ref h12, .ref h13, .ref h14, .ref h15, .ref h16]))] := hD_1
  clear hP hD hS hK hPc_1 hDc_1 hKc_1 hFc_1 hP1_1 hK1_1 hD1_1 hk_1 hz_1
  refine lv_tableIn (tgt := 84) (off := 79) hx hb dX10_maybeEmpty_5 (by decide) (by decide) (by decide) (by decide) ?_
  refine lv_iload_n hx hb dX10_maybeEmpty_84 rfl (lv_at hl 2 rfl) ?_
  have hP9 := hP_1.sub (ws' := [(h1, .inl (k0, 256, .inl (upd (fun _ => 0) 0 5))), (h0, .inr (13, [.int 0, .int 1, .int 0, .int 0, .ref h1, .ref h2, .ref h3, .ref h4, .ref h5, .ref h6, .ref h7, .ref h8, .ref h9, .ref h10, .ref h11, .ref h12, .ref h13, .ref h14, .ref h15, .ref h16]))]) [0, 1] rfl
  have hD9 := hD_1.sub (ws' := [(h1, .inl (k0, 256, .inl (upd (fun _ => 0) 0 5))), (h0, .inr (13, [.int 0, .int 1, .int 0, .int 0, .ref h1, .ref h2, .ref h3, .ref h4, .ref h5, .ref h6, .ref h7, .ref h8, .ref h9, .ref h10, .ref h11, .ref h12, .ref h13, .ref h14, .ref h15, .ref h16]))]) [0, 1] (by decide) rfl
  have hK9 := hK_1.sub (tys' := [(k0, .int)]) [0] rfl
  refine W.widen (k := 0) (n := 0) (by decide) (by decide) ?_
  exact W.zret (v := 1) hx hb hr rfl (fun t9 ht9 hW9 => ⟨⟨1, 0, rfl, ⟨rfl, rfl⟩, ⟨by rw [ht9]; exact hP9, va_K.moved hW9.alike hK9, hD9⟩⟩, hS_1.F ht9⟩) hS_1.2.2 dX10_maybeEmpty_85
set_option maxHeartbeats 4000000 in
set_option maxRecDepth 100000 in
theorem mt_X10_measureNode (l : Launch) (dC : Nat → ClassId) (dI : Nat → Nat → Nat) (h0 h1 h2 h3 h4 h5 h6 h7 h8 h9 h10 h11 h12 h13 h14 h15 h16 : Nat) (k0 k1 k2 k3 k4 : ClassId) (sz : Nat) : Met l yX10_measureNode (WS yX10_measureNode cX10_measureNode 7 none) ({ frames := 2, cells := 0, slots := 0, locals := 44 }) (va_Pc [.ref h0, .int 0] (fun U => U.heap.size = sz ∧ va_P (dC, dI) vwCl [(h1, .inl (k0, 256, .inl (fun _ => 0))), (h2, .inl (k1, 256, .inl (fun _ => 0))), (h3, .inl (k2, 256, .inl (fun _ => 0))), (h4, .inl (k3, 256, .inl (upd (fun _ => 0) 0 5))), (h5, .inl (k4, 256, .inl (upd (fun _ => 0) 0 1))), (h0, .inr (13, [.int 0, .int 1, .int 0, .int 0, .ref h4, .ref h6, .ref h5, .ref h7, .ref h8, .ref h9, .ref h10, .ref h11, .ref h12, .ref h1, .ref h2, .ref h3, .ref h13, .ref h14, .ref h15, .ref h16]))] U.heap ∧ va_K (dC, dI) vwCl [(k0, .int), (k1, .int), (k2, .boolean), (k3, .int), (k4, .int)] U ∧ va_D (fun _ => True) [(h1, .inl (k0, 256, .inl (fun _ => 0))), (h2, .inl (k1, 256, .inl (fun _ => 0))), (h3, .inl (k2, 256, .inl (fun _ => 0))), (h4, .inl (k3, 256, .inl (upd (fun _ => 0) 0 5))), (h5, .inl (k4, 256, .inl (upd (fun _ => 0) 0 1))), (h0, .inr (13, [.int 0, .int 1, .int 0, .int 0, .ref h4, .ref h6, .ref h5, .ref h7, .ref h8, .ref h9, .ref h10, .ref h11, .ref h12, .ref h1, .ref h2, .ref h3, .ref h13, .ref h14, .ref h15, .ref h16]))])) (va_Qv (fun (u : Nat) => (u = 0)) (fun (_ : Nat) (t : State) => (va_P (dC, dI) vwCl [(h1, .inl (k0, 256, .inl (upd (fun _ => 0) 0 1))), (h2, .inl (k1, 256, .inl (upd (fun _ => 0) 0 0))), (h3, .inl (k2, 256, .inl (upd (fun _ => 0) 0 1))), (h5, .inl (k4, 256, .inl (upd (fun _ => 0) 0 1))), (h4, .inl (k3, 256, .inl (upd (fun _ => 0) 0 5))), (h0, .inr (13, [.int 0, .int 1, .int 0, .int 0, .ref h4, .ref h6, .ref h5, .ref h7, .ref h8, .ref h9, .ref h10, .ref h11, .ref h12, .ref h1, .ref h2, .ref h3, .ref h13, .ref h14, .ref h15, .ref h16]))] t.heap ∧ va_K (dC, dI) vwCl [(k0, .int), (k1, .int), (k2, .boolean), (k4, .int), (k3, .int)] t ∧ va_D (va_A [(h1, .inl (k0, 256, .inl (fun _ => 0))), (h2, .inl (k1, 256, .inl (fun _ => 0))), (h3, .inl (k2, 256, .inl (fun _ => 0))), (h4, .inl (k3, 256, .inl (upd (fun _ => 0) 0 5))), (h5, .inl (k4, 256, .inl (upd (fun _ => 0) 0 1))), (h0, .inr (13, [.int 0, .int 1, .int 0, .int 0, .ref h4, .ref h6, .ref h5, .ref h7, .ref h8, .ref h9, .ref h10, .ref h11, .ref h12, .ref h1, .ref h2, .ref h3, .ref h13, .ref h14, .ref h15, .ref h16]))] sz) [(h1, .inl (k0, 256, .inl (upd (fun _ => 0) 0 1))), (h2, .inl (k1, 256, .inl (upd (fun _ => 0) 0 0))), (h3, .inl (k2, 256, .inl (upd (fun _ => 0) 0 1))), (h5, .inl (k4, 256, .inl (upd (fun _ => 0) 0 1))), (h4, .inl (k3, 256, .inl (upd (fun _ => 0) 0 5))), (h0, .inr (13, [.int 0, .int 1, .int 0, .int 0, .ref h4, .ref h6, .ref h5, .ref h7, .ref h8, .ref h9, .ref h10, .ref h11, .ref h12, .ref h1, .ref h2, .ref h3, .ref h13, .ref h14, .ref h15, .ref h16]))])) (va_A [(h1, .inl (k0, 256, .inl (fun _ => 0))), (h2, .inl (k1, 256, .inl (fun _ => 0))), (h3, .inl (k2, 256, .inl (fun _ => 0))), (h4, .inl (k3, 256, .inl (upd (fun _ => 0) 0 5))), (h5, .inl (k4, 256, .inl (upd (fun _ => 0) 0 1))), (h0, .inr (13, [.int 0, .int 1, .int 0, .int 0, .ref h4, .ref h6, .ref h5, .ref h7, .ref h8, .ref h9, .ref h10, .ref h11, .ref h12, .ref h1, .ref h2, .ref h3, .ref h13, .ref h14, .ref h15, .ref h16]))] sz)) 0 0 (va_A [(h1, .inl (k0, 256, .inl (fun _ => 0))), (h2, .inl (k1, 256, .inl (fun _ => 0))), (h3, .inl (k2, 256, .inl (fun _ => 0))), (h4, .inl (k3, 256, .inl (upd (fun _ => 0) 0 5))), (h5, .inl (k4, 256, .inl (upd (fun _ => 0) 0 1))), (h0, .inr (13, [.int 0, .int 1, .int 0, .int 0, .ref h4, .ref h6, .ref h5, .ref h7, .ref h8, .ref h9, .ref h10, .ref h11, .ref h12, .ref h1, .ref h2, .ref h3, .ref h13, .ref h14, .ref h15, .ref h16]))] sz) := by
  refine Met.ofW (cc := cX10_measureNode) (maxL := 7) (ret := none) (by decide) rfl ?_
  intro p e s m args below meth c s₁ B hml hv
  obtain ⟨rfl, hsz, hP, hK, hD0⟩ := hv
  have hx := B.exec
  have hb := B.bytes
  have hr := B.returns
  have hts := atoms_spec (ws := WS yX10_measureNode cX10_measureNode 7 none) B.pre
  have ht : ∀ w ∈ TW, w.before _ s = true := fun w h => hts w (List.mem_cons_of_mem _ h)
  have hown : s.vm.findClass "PatternWorkshop$Tree" = some m.cls := findClass_of_methodNamed B.named
  have hlocks := B.notSynchronized
  subst hsz
  have hD := hD0.self (sz := s.heap.size)
  generalize hAe : va_A [(h1, .inl (k0, 256, .inl (fun _ => 0))), (h2, .inl (k1, 256, .inl (fun _ => 0))), (h3, .inl (k2, 256, .inl (fun _ => 0))), (h4, .inl (k3, 256, .inl (upd (fun _ => 0) 0 5))), (h5, .inl (k4, 256, .inl (upd (fun _ => 0) 0 1))), (h0, .inr (13, [.int 0, .int 1, .int 0, .int 0, .ref h4, .ref h6, .ref h5, .ref h7, .ref h8, .ref h9, .ref h10, .ref h11, .ref h12, .ref h1, .ref h2, .ref h3, .ref h13, .ref h14, .ref h15, .ref h16]))] s.heap.size = A at hD ⊢
  have hA : ∀ q : Nat, s.heap.size ≤ q → A q := fun q h => by rw [← hAe]; exact Or.inr h
  have hS : va_S A s.heap s.heap [] := va_S.rf
  have hP : va_P (dC, dI) vwCl [(h1, .inl (k0, 256, .inl (fun _ => 0))), (h2, .inl (k1, 256, .inl (fun _ => 0))), (h3, .inl (k2, 256, .inl (fun _ => 0))), (h4, .inl (k3, 256, .inl (upd (fun _ => 0) 0 5))), (h5, .inl (k4, 256, .inl (upd (fun _ => 0) 0 1))), (h0, .inr (13, [.int 0, .int 1, .int 0, .int 0, .ref h4, .ref h6, .ref h5, .ref h7, .ref h8, .ref h9, .ref h10, .ref h11, .ref h12, .ref h1, .ref h2, .ref h3, .ref h13, .ref h14, .ref h15, .ref h16]))] s.heap := hP
  have hl := lv_entry ([.ref h0, .int 0]) (n := 7) (Nat.le_of_ble_eq_true rfl)
  rw [lg_entry_eq]
  generalize (lg_sl ([.ref h0, .int 0]) ++ List.replicate (7 - (lg_sl ([.ref h0, .int 0])).length) Slot.unset).toArray = ls at hl ⊢
  have hl : lv_has ls 7 [(0, .ref h0), (1, .int 0)] := hl
  clear hD0
  refine lv_aload_n hx hb dX10_measureNode_0 rfl (lv_at hl 0 rfl) ?_
  refine lv_iload_n hx hb dX10_measureNode_1 rfl (lv_at hl 1 rfl) ?_
  have hPc_1 := hP.sub (ws' := [(h0, .inr (13, [.int 0, .int 1, .int 0, .int 0, .ref h4, .ref h6, .ref h5, .ref h7, .ref h8, .ref h9, .ref h10, .ref h11, .ref h12, .ref h1, .ref h2, .ref h3, .ref h13, .ref h14, .ref h15, .ref h16]))]) [5] rfl
  have hDc_1 := hD.sub (ws' := [(h0, .inr (13, [.int 0, .int 1, .int 0, .int 0, .ref h4, .ref h6, .ref h5, .ref h7, .ref h8, .ref h9, .ref h10, .ref h11, .ref h12, .ref h1, .ref h2, .ref h3, .ref h13, .ref h14, .ref h15, .ref h16]))]) [5] (by decide) rfl
  have hKc_1 := hK.sub (tys' := []) [] rfl
  have hFc_1 := va_free (wc := [(h0, .inr (13, [.int 0, .int 1, .int 0, .int 0, .ref h4, .ref h6, .ref h5, .ref h7, .ref h8, .ref h9, .ref h10, .ref h11, .ref h12, .ref h1, .ref h2, .ref h3, .ref h13, .ref h14, .ref h15, .ref h16]))]) hD hS hA [5] rfl
  refine va_calli (va_runV (As := [.int 0]) (rest := []) ⟨hx, hb, hml, hown, ht⟩ (mt_X10_has_v2 l dC dI h0 h4 h6 h5 h7 h8 h9 h10 h11 h12 h1 h2 h3 h13 h14 h15 h16 s.heap.size) (cwV 1 ht (goodV tw_1069 tw_1070 tw_1071 tw_240 gw_X10_has) rfl rfl rfl (by decide +kernel) ⟨Nat.le_of_ble_eq_true rfl, Nat.le_of_ble_eq_true rfl⟩) ⟨fun a U g mk q => by obtain ⟨q0, q1, qP, qK, qD⟩ := q; exact ⟨q0, q1, qP, va_K.moved (u := U) (U := U.calling g mk a) (Vm.Alike.refl U.vm) qK, qD⟩, va_recv hKc_1 hPc_1 (ci := 13) (q0 := 0) rfl rfl, fun U hU hW => ⟨rfl, by rw [hU], by rw [hU]; exact hPc_1, va_K.moved hW.alike hKc_1, hDc_1.weaken (fun _ _ _ _ => trivial)⟩⟩ rfl rfl hl.1 rfl (lv_room (Nat.le_of_ble_eq_true rfl)) dX10_measureNode_2 ⟨Nat.le_of_ble_eq_true rfl, Nat.le_of_ble_eq_true rfl⟩) hS (fun q _ h => hFc_1 q h) hFc_1 (fun r_1 u_1 t_1 H_1 locs_1 ht_1 hvm_1 hw_1 hB_1 hz_1 hk_1 hS_1 => ?_)
  obtain ⟨rfl, rfl⟩ := hw_1
  obtain ⟨hP1_1, hK1_1, hD1_1⟩ := hB_1
  rw [ht_1] at hP1_1
  have hK1_1 := va_K.moved hvm_1.symm hK1_1
  obtain ⟨hP_1, hD_1⟩ := va_join (wr := [(h1, .inl (k0, 256, .inl (fun _ => 0))), (h2, .inl (k1, 256, .inl (fun _ => 0))), (h3, .inl (k2, 256, .inl (fun _ => 0))), (h4, .inl (k3, 256, .inl (upd (fun _ => 0) 0 5))), (h5, .inl (k4, 256, .inl (upd (fun _ => 0) 0 1)))]) (w1 := [(h0, .inr (13, [.int 0, .int 1, .int 0, .int 0, .ref h4, .ref h6, .ref h5, .ref h7, .ref h8, .ref h9, .ref h10, .ref h11, .ref h12, .ref h1, .ref h2, .ref h3, .ref h13, .ref h14, .ref h15, .ref h16]))]) hP hD [5] [0, 1, 2, 3, 4] rfl rfl (by decide) (by decide) hk_1 hFc_1 hP1_1 hD1_1
  have hK_1 := (hK.sub (tys' := [(k0, .int), (k1, .int), (k2, .boolean), (k3, .int), (k4, .int)]) [0, 1, 2, 3, 4] rfl).app hK1_1
  have hK_1 : va_K (dC, dI) vwCl [(k0, .int), (k1, .int), (k2, .boolean), (k3, .int), (k4, .int)] s := hK_1
  have hP_1 : va_P (dC, dI) vwCl [(h1, .inl (k0, 256, .inl (fun _ => 0))), (h2, .inl (k1, 256, .inl (fun _ => 0))), (h3, .inl (k2, 256, .inl (fun _ => 0))), (h4, .inl (k3, 256, .inl (upd (fun _ => 0) 0 5))), (h5, .inl (k4, 256, .inl (upd (fun _ => 0) 0 1))), (h0, .inr (13, [.int 0, .int 1, .int 0, .int 0, .ref h4, .ref h6, .ref h5, .ref h7, .ref h8, .ref h9, .ref h10, .ref h11, .ref h12, .ref h1, .ref h2, .ref h3, .ref h13, .ref h14, .ref h15, .ref h16]))] H_1 := hP_1
  have hD_1 : va_D A [(h1, .inl (k0, 256, .inl (fun _ => 0))), (h2, .inl (k1, 256, .inl (fun _ => 0))), (h3, .inl (k2, 256, .inl (fun _ => 0))), (h4, .inl (k3, 256, .inl (upd (fun _ => 0) 0 5))), (h5, .inl (k4, 256, .inl (upd (fun _ => 0) 0 1))), (h0, .inr (13, [.int 0, .int 1, .int 0, .int 0, .ref h4, .ref h6, .ref h5, .ref h7, .ref h8, .ref h9, .ref h10, .ref h11, .ref h12, .ref h1, .ref h2, .ref h3, .ref h13, .ref h14, .ref h15, .ref h16]))] := hD_1
  clear hP hD hS hK hPc_1 hDc_1 hKc_1 hFc_1 hP1_1 hK1_1 hD1_1 hk_1 hz_1
  refine lv_if_ne (tgt := 9) hx hb dX10_measureNode_5 (by decide) (fun _ => ?_) (fun c_ => absurd c_ (by decide))
  refine lv_iconst (v := 0) hx hb dX10_measureNode_9 (by decide) ?_
  refine lv_istore_n (lv' := [(2, .int 0), (0, .ref h0), (1, .int 0)]) hx hb dX10_measureNode_10 rfl hl (by decide) rfl (fun ls_2 hl_2 => ?_)
  clear hl
  refine lv_iconst (v := 0) hx hb dX10_measureNode_11 (by decide) ?_
  refine lv_istore_n (lv' := [(3, .int 0), (2, .int 0), (0, .ref h0), (1, .int 0)]) hx hb dX10_measureNode_12 rfl hl_2 (by decide) rfl (fun ls_3 hl_3 => ?_)
  clear hl_2
  refine lv_iconst (v := 1) hx hb dX10_measureNode_13 (by decide) ?_
  refine lv_istore (lv' := [(4, .int 1), (3, .int 0), (2, .int 0), (0, .ref h0), (1, .int 0)]) hx hb dX10_measureNode_14 hl_3 (by decide) rfl (fun ls_4 hl_4 => ?_)
  clear hl_3
  refine lv_iconst (v := 0) hx hb dX10_measureNode_16 (by decide) ?_
  refine lv_istore (lv' := [(5, .int 0), (4, .int 1), (3, .int 0), (2, .int 0), (0, .ref h0), (1, .int 0)]) hx hb dX10_measureNode_17 hl_4 (by decide) rfl (fun ls_5 hl_5 => ?_)
  clear hl_4
  refine lv_aload_n hx hb dX10_measureNode_19 rfl (lv_at hl_5 4 rfl) ?_
  refine lv_iload_n hx hb dX10_measureNode_20 rfl (lv_at hl_5 5 rfl) ?_
  have hPc_6 := hP_1.sub (ws' := [(h5, .inl (k4, 256, .inl (upd (fun _ => 0) 0 1))), (h0, .inr (13, [.int 0, .int 1, .int 0, .int 0, .ref h4, .ref h6, .ref h5, .ref h7, .ref h8, .ref h9, .ref h10, .ref h11, .ref h12, .ref h1, .ref h2, .ref h3, .ref h13, .ref h14, .ref h15, .ref h16]))]) [4, 5] rfl
  have hDc_6 := hD_1.sub (ws' := [(h5, .inl (k4, 256, .inl (upd (fun _ => 0) 0 1))), (h0, .inr (13, [.int 0, .int 1, .int 0, .int 0, .ref h4, .ref h6, .ref h5, .ref h7, .ref h8, .ref h9, .ref h10, .ref h11, .ref h12, .ref h1, .ref h2, .ref h3, .ref h13, .ref h14, .ref h15, .ref h16]))]) [4, 5] (by decide) rfl
  have hKc_6 := hK_1.sub (tys' := [(k4, .int)]) [4] rfl
  have hFc_6 := va_free (wc := [(h5, .inl (k4, 256, .inl (upd (fun _ => 0) 0 1))), (h0, .inr (13, [.int 0, .int 1, .int 0, .int 0, .ref h4, .ref h6, .ref h5, .ref h7, .ref h8, .ref h9, .ref h10, .ref h11, .ref h12, .ref h1, .ref h2, .ref h3, .ref h13, .ref h14, .ref h15, .ref h16]))]) hD_1 hS_1 hA [4, 5] rfl
  refine va_calli (va_runV (As := [.int 0]) (rest := []) ⟨hx, hb, hml, hown, ht⟩ (mt_X10_firstOf l dC dI h0 h5 h4 h6 h7 h8 h9 h10 h11 h12 h1 h2 h3 h13 h14 h15 h16 k4 H_1.size) (cwV 1 ht (goodV tw_1089 tw_1090 tw_1091 tw_240 gw_X10_firstOf) rfl rfl rfl (by decide +kernel) ⟨Nat.le_of_ble_eq_true rfl, Nat.le_of_ble_eq_true rfl⟩) ⟨fun a U g mk q => by obtain ⟨q0, q1, qP, qK, qD⟩ := q; exact ⟨q0, q1, qP, va_K.moved (u := U) (U := U.calling g mk a) (Vm.Alike.refl U.vm) qK, qD⟩, va_recv hKc_6 hPc_6 (ci := 13) (q0 := 1) rfl rfl, fun U hU hW => ⟨rfl, by rw [hU], by rw [hU]; exact hPc_6, va_K.moved hW.alike hKc_6, hDc_6.weaken (fun _ _ _ _ => trivial)⟩⟩ rfl rfl hl_5.1 rfl (lv_room (Nat.le_of_ble_eq_true rfl)) dX10_measureNode_21 ⟨Nat.le_of_ble_eq_true rfl, Nat.le_of_ble_eq_true rfl⟩) hS_1 (fun q _ h => hFc_6 q h) hFc_6 (fun r_6 u_6 t_6 H_6 locs_6 ht_6 hvm_6 hw_6 hB_6 hz_6 hk_6 hS_6 => ?_)
  obtain ⟨rfl, rfl⟩ := hw_6
  obtain ⟨hP1_6, hK1_6, hD1_6⟩ := hB_6
  rw [ht_6] at hP1_6
  have hK1_6 := va_K.moved hvm_6.symm hK1_6
  obtain ⟨hP_6, hD_6⟩ := va_join (wr := [(h1, .inl (k0, 256, .inl (fun _ => 0))), (h2, .inl (k1, 256, .inl (fun _ => 0))), (h3, .inl (k2, 256, .inl (fun _ => 0))), (h4, .inl (k3, 256, .inl (upd (fun _ => 0) 0 5)))]) (w1 := [(h5, .inl (k4, 256, .inl (upd (fun _ => 0) 0 1))), (h0, .inr (13, [.int 0, .int 1, .int 0, .int 0, .ref h4, .ref h6, .ref h5, .ref h7, .ref h8, .ref h9, .ref h10, .ref h11, .ref h12, .ref h1, .ref h2, .ref h3, .ref h13, .ref h14, .ref h15, .ref h16]))]) hP_1 hD_1 [4, 5] [0, 1, 2, 3] rfl rfl (by decide) (by decide) hk_6 hFc_6 hP1_6 hD1_6
  have hK_6 := (hK_1.sub (tys' := [(k0, .int), (k1, .int), (k2, .boolean), (k3, .int)]) [0, 1, 2, 3] rfl).app hK1_6
  have hK_6 : va_K (dC, dI) vwCl [(k0, .int), (k1, .int), (k2, .boolean), (k3, .int), (k4, .int)] s := hK_6
  have hP_6 : va_P (dC, dI) vwCl [(h1, .inl (k0, 256, .inl (fun _ => 0))), (h2, .inl (k1, 256, .inl (fun _ => 0))), (h3, .inl (k2, 256, .inl (fun _ => 0))), (h4, .inl (k3, 256, .inl (upd (fun _ => 0) 0 5))), (h5, .inl (k4, 256, .inl (upd (fun _ => 0) 0 1))), (h0, .inr (13, [.int 0, .int 1, .int 0, .int 0, .ref h4, .ref h6, .ref h5, .ref h7, .ref h8, .ref h9, .ref h10, .ref h11, .ref h12, .ref h1, .ref h2, .ref h3, .ref h13, .ref h14, .ref h15, .ref h16]))] H_6 := hP_6
  have hD_6 : va_D A [(h1, .inl (k0, 256, .inl (fun _ => 0))), (h2, .inl (k1, 256, .inl (fun _ => 0))), (h3, .inl (k2, 256, .inl (fun _ => 0))), (h4, .inl (k3, 256, .inl (upd (fun _ => 0) 0 5))), (h5, .inl (k4, 256, .inl (upd (fun _ => 0) 0 1))), (h0, .inr (13, [.int 0, .int 1, .int 0, .int 0, .ref h4, .ref h6, .ref h5, .ref h7, .ref h8, .ref h9, .ref h10, .ref h11, .ref h12, .ref h1, .ref h2, .ref h3, .ref h13, .ref h14, .ref h15, .ref h16]))] := hD_6
  clear hP_1 hD_1 hS_1 hK_1 hPc_6 hDc_6 hKc_6 hFc_6 hP1_6 hK1_6 hD1_6 hk_6 hz_6
  refine lv_istore (lv' := [(6, .int (-1)), (5, .int 0), (4, .int 1), (3, .int 0), (2, .int 0), (0, .ref h0), (1, .int 0)]) hx hb dX10_measureNode_24 hl_5 (by decide) rfl (fun ls_7 hl_7 => ?_)
  clear hl_5
  refine lv_aload_n hx hb dX10_measureNode_26 rfl (lv_at hl_7 5 rfl) ?_
  refine lv_iload hx hb dX10_measureNode_27 (lv_at hl_7 0 rfl) ?_
  have hPc_8 := hP_6.sub (ws' := [(h0, .inr (13, [.int 0, .int 1, .int 0, .int 0, .ref h4, .ref h6, .ref h5, .ref h7, .ref h8, .ref h9, .ref h10, .ref h11, .ref h12, .ref h1, .ref h2, .ref h3, .ref h13, .ref h14, .ref h15, .ref h16]))]) [5] rfl
  have hDc_8 := hD_6.sub (ws' := [(h0, .inr (13, [.int 0, .int 1, .int 0, .int 0, .ref h4, .ref h6, .ref h5, .ref h7, .ref h8, .ref h9, .ref h10, .ref h11, .ref h12, .ref h1, .ref h2, .ref h3, .ref h13, .ref h14, .ref h15, .ref h16]))]) [5] (by decide) rfl
  have hKc_8 := hK_6.sub (tys' := []) [] rfl
  have hFc_8 := va_free (wc := [(h0, .inr (13, [.int 0, .int 1, .int 0, .int 0, .ref h4, .ref h6, .ref h5, .ref h7, .ref h8, .ref h9, .ref h10, .ref h11, .ref h12, .ref h1, .ref h2, .ref h3, .ref h13, .ref h14, .ref h15, .ref h16]))]) hD_6 hS_6 hA [5] rfl
  refine va_calli (va_runV (As := [.int (-1)]) (rest := []) ⟨hx, hb, hml, hown, ht⟩ (mt_X10_has l dC dI h0 h4 h6 h5 h7 h8 h9 h10 h11 h12 h1 h2 h3 h13 h14 h15 h16 H_6.size) (cwV 1 ht (goodV tw_1069 tw_1070 tw_1071 tw_240 gw_X10_has) rfl rfl rfl (by decide +kernel) ⟨Nat.le_of_ble_eq_true rfl, Nat.le_of_ble_eq_true rfl⟩) ⟨fun a U g mk q => by obtain ⟨q0, q1, qP, qK, qD⟩ := q; exact ⟨q0, q1, qP, va_K.moved (u := U) (U := U.calling g mk a) (Vm.Alike.refl U.vm) qK, qD⟩, va_recv hKc_8 hPc_8 (ci := 13) (q0 := 0) rfl rfl, fun U hU hW => ⟨rfl, by rw [hU], by rw [hU]; exact hPc_8, va_K.moved hW.alike hKc_8, hDc_8.weaken (fun _ _ _ _ => trivial)⟩⟩ rfl rfl hl_7.1 rfl (lv_room (Nat.le_of_ble_eq_true rfl)) dX10_measureNode_29 ⟨Nat.le_of_ble_eq_true rfl, Nat.le_of_ble_eq_true rfl⟩) hS_6 (fun q _ h => hFc_8 q h) hFc_8 (fun r_8 u_8 t_8 H_8 locs_8 ht_8 hvm_8 hw_8 hB_8 hz_8 hk_8 hS_8 => ?_)
  obtain ⟨rfl, rfl⟩ := hw_8
  obtain ⟨hP1_8, hK1_8, hD1_8⟩ := hB_8
  rw [ht_8] at hP1_8
  have hK1_8 := va_K.moved hvm_8.symm hK1_8
  obtain ⟨hP_8, hD_8⟩ := va_join (wr := [(h1, .inl (k0, 256, .inl (fun _ => 0))), (h2, .inl (k1, 256, .inl (fun _ => 0))), (h3, .inl (k2, 256, .inl (fun _ => 0))), (h4, .inl (k3, 256, .inl (upd (fun _ => 0) 0 5))), (h5, .inl (k4, 256, .inl (upd (fun _ => 0) 0 1)))]) (w1 := [(h0, .inr (13, [.int 0, .int 1, .int 0, .int 0, .ref h4, .ref h6, .ref h5, .ref h7, .ref h8, .ref h9, .ref h10, .ref h11, .ref h12, .ref h1, .ref h2, .ref h3, .ref h13, .ref h14, .ref h15, .ref h16]))]) hP_6 hD_6 [5] [0, 1, 2, 3, 4] rfl rfl (by decide) (by decide) hk_8 hFc_8 hP1_8 hD1_8
  have hK_8 := (hK_6.sub (tys' := [(k0, .int), (k1, .int), (k2, .boolean), (k3, .int), (k4, .int)]) [0, 1, 2, 3, 4] rfl).app hK1_8
  have hK_8 : va_K (dC, dI) vwCl [(k0, .int), (k1, .int), (k2, .boolean), (k3, .int), (k4, .int)] s := hK_8
  have hP_8 : va_P (dC, dI) vwCl [(h1, .inl (k0, 256, .inl (fun _ => 0))), (h2, .inl (k1, 256, .inl (fun _ => 0))), (h3, .inl (k2, 256, .inl (fun _ => 0))), (h4, .inl (k3, 256, .inl (upd (fun _ => 0) 0 5))), (h5, .inl (k4, 256, .inl (upd (fun _ => 0) 0 1))), (h0, .inr (13, [.int 0, .int 1, .int 0, .int 0, .ref h4, .ref h6, .ref h5, .ref h7, .ref h8, .ref h9, .ref h10, .ref h11, .ref h12, .ref h1, .ref h2, .ref h3, .ref h13, .ref h14, .ref h15, .ref h16]))] H_8 := hP_8
  have hD_8 : va_D A [(h1, .inl (k0, 256, .inl (fun _ => 0))), (h2, .inl (k1, 256, .inl (fun _ => 0))), (h3, .inl (k2, 256, .inl (fun _ => 0))), (h4, .inl (k3, 256, .inl (upd (fun _ => 0) 0 5))), (h5, .inl (k4, 256, .inl (upd (fun _ => 0) 0 1))), (h0, .inr (13, [.int 0, .int 1, .int 0, .int 0, .ref h4, .ref h6, .ref h5, .ref h7, .ref h8, .ref h9, .ref h10, .ref h11, .ref h12, .ref h1, .ref h2, .ref h3, .ref h13, .ref h14, .ref h15, .ref h16]))] := hD_8
  clear hP_6 hD_6 hS_6 hK_6 hPc_8 hDc_8 hKc_8 hFc_8 hP1_8 hK1_8 hD1_8 hk_8 hz_8
  refine lv_if_eq (tgt := 90) hx hb dX10_measureNode_32 (by decide) (fun _ => ?_) (fun c_ => absurd (by decide) c_)
  refine lv_aload_n hx hb dX10_measureNode_90 rfl (lv_at hl_7 5 rfl) ?_
  refine lv_iload_n hx hb dX10_measureNode_91 rfl (lv_at hl_7 6 rfl) ?_
  have hPc_9 := hP_8.sub (ws' := [(h4, .inl (k3, 256, .inl (upd (fun _ => 0) 0 5))), (h0, .inr (13, [.int 0, .int 1, .int 0, .int 0, .ref h4, .ref h6, .ref h5, .ref h7, .ref h8, .ref h9, .ref h10, .ref h11, .ref h12, .ref h1, .ref h2, .ref h3, .ref h13, .ref h14, .ref h15, .ref h16]))]) [3, 5] rfl
  have hDc_9 := hD_8.sub (ws' := [(h4, .inl (k3, 256, .inl (upd (fun _ => 0) 0 5))), (h0, .inr (13, [.int 0, .int 1, .int 0, .int 0, .ref h4, .ref h6, .ref h5, .ref h7, .ref h8, .ref h9, .ref h10, .ref h11, .ref h12, .ref h1, .ref h2, .ref h3, .ref h13, .ref h14, .ref h15, .ref h16]))]) [3, 5] (by decide) rfl
  have hKc_9 := hK_8.sub (tys' := [(k3, .int)]) [3] rfl
  have hFc_9 := va_free (wc := [(h4, .inl (k3, 256, .inl (upd (fun _ => 0) 0 5))), (h0, .inr (13, [.int 0, .int 1, .int 0, .int 0, .ref h4, .ref h6, .ref h5, .ref h7, .ref h8, .ref h9, .ref h10, .ref h11, .ref h12, .ref h1, .ref h2, .ref h3, .ref h13, .ref h14, .ref h15, .ref h16]))]) hD_8 hS_8 hA [3, 5] rfl
  refine va_calli (va_runV (As := [.int 0]) (rest := []) ⟨hx, hb, hml, hown, ht⟩ (mt_X10_copies l dC dI h0 h4 h6 h5 h7 h8 h9 h10 h11 h12 h1 h2 h3 h13 h14 h15 h16 k3 H_8.size) (cwV 1 ht (goodV tw_1097 tw_1099 tw_35 tw_240 gw_X10_copies) rfl rfl rfl (by decide +kernel) ⟨Nat.le_of_ble_eq_true rfl, Nat.le_of_ble_eq_true rfl⟩) ⟨fun a U g mk q => by obtain ⟨q0, q1, qP, qK, qD⟩ := q; exact ⟨q0, q1, qP, va_K.moved (u := U) (U := U.calling g mk a) (Vm.Alike.refl U.vm) qK, qD⟩, va_recv hKc_9 hPc_9 (ci := 13) (q0 := 1) rfl rfl, fun U hU hW => ⟨rfl, by rw [hU], by rw [hU]; exact hPc_9, va_K.moved hW.alike hKc_9, hDc_9.weaken (fun _ _ _ _ => trivial)⟩⟩ rfl rfl hl_7.1 rfl (lv_room (Nat.le_of_ble_eq_true rfl)) dX10_measureNode_92 ⟨Nat.le_of_ble_eq_true rfl, Nat.le_of_ble_eq_true rfl⟩) hS_8 (fun q _ h => hFc_9 q h) hFc_9 (fun r_9 u_9 t_9 H_9 locs_9 ht_9 hvm_9 hw_9 hB_9 hz_9 hk_9 hS_9 => ?_)
  obtain ⟨rfl, rfl⟩ := hw_9
  obtain ⟨hP1_9, hK1_9, hD1_9⟩ := hB_9
  rw [ht_9] at hP1_9
  have hK1_9 := va_K.moved hvm_9.symm hK1_9
  obtain ⟨hP_9, hD_9⟩ := va_join (wr := [(h1, .inl (k0, 256, .inl (fun _ => 0))), (h2, .inl (k1, 256, .inl (fun _ => 0))), (h3, .inl (k2, 256, .inl (fun _ => 0))), (h5, .inl (k4, 256, .inl (upd (fun _ => 0) 0 1)))]) (w1 := [(h4, .inl (k3, 256, .inl (upd (fun _ => 0) 0 5))), (h0, .inr (13, [.int 0, .int 1, .int 0, .int 0, .ref h4, .ref h6, .ref h5, .ref h7, .ref h8, .ref h9, .ref h10, .ref h11, .ref h12, .ref h1, .ref h2, .ref h3, .ref h13, .ref h14, .ref h15, .ref h16]))]) hP_8 hD_8 [3, 5] [0, 1, 2, 4] rfl rfl (by decide) (by decide) hk_9 hFc_9 hP1_9 hD1_9
  have hK_9 := (hK_8.sub (tys' := [(k0, .int), (k1, .int), (k2, .boolean), (k4, .int)]) [0, 1, 2, 4] rfl).app hK1_9
  have hK_9 : va_K (dC, dI) vwCl [(k0, .int), (k1, .int), (k2, .boolean), (k4, .int), (k3, .int)] s := hK_9
  have hP_9 : va_P (dC, dI) vwCl [(h1, .inl (k0, 256, .inl (fun _ => 0))), (h2, .inl (k1, 256, .inl (fun _ => 0))), (h3, .inl (k2, 256, .inl (fun _ => 0))), (h5, .inl (k4, 256, .inl (upd (fun _ => 0) 0 1))), (h4, .inl (k3, 256, .inl (upd (fun _ => 0) 0 5))), (h0, .inr (13, [.int 0, .int 1, .int 0, .int 0, .ref h4, .ref h6, .ref h5, .ref h7, .ref h8, .ref h9, .ref h10, .ref h11, .ref h12, .ref h1, .ref h2, .ref h3, .ref h13, .ref h14, .ref h15, .ref h16]))] H_9 := hP_9
  have hD_9 : va_D A [(h1, .inl (k0, 256, .inl (fun _ => 0))), (h2, .inl (k1, 256, .inl (fun _ => 0))), (h3, .inl (k2, 256, .inl (fun _ => 0))), (h5, .inl (k4, 256, .inl (upd (fun _ => 0) 0 1))), (h4, .inl (k3, 256, .inl (upd (fun _ => 0) 0 5))), (h0, .inr (13, [.int 0, .int 1, .int 0, .int 0, .ref h4, .ref h6, .ref h5, .ref h7, .ref h8, .ref h9, .ref h10, .ref h11, .ref h12, .ref h1, .ref h2, .ref h3, .ref h13, .ref h14, .ref h15, .ref h16]))] := hD_9
  clear hP_8 hD_8 hS_8 hK_8 hPc_9 hDc_9 hKc_9 hFc_9 hP1_9 hK1_9 hD1_9 hk_9 hz_9
  refine lv_istore (lv' := [(6, .int 1), (5, .int 0), (4, .int 1), (3, .int 0), (2, .int 0), (0, .ref h0), (1, .int 0)]) hx hb dX10_measureNode_95 hl_7 (by decide) rfl (fun ls_10 hl_10 => ?_)
  clear hl_7
  refine lv_aload_n hx hb dX10_measureNode_97 rfl (lv_at hl_10 5 rfl) ?_
  refine va_get (D := (dC, dI)) (ci := 13) (v := .ref h1) (C := RX10) (T := TX10) (N := 20) hx hb ht inX10 hown hK_9 hP_9 5 rfl rfl 13 (by decide) (ht _ tw_336) (fun _ h9 => h9) rfl dX10_measureNode_98 ?_
  refine lv_iload_n hx hb dX10_measureNode_101 rfl (lv_at hl_10 6 rfl) ?_
  refine lv_sipush (v := 20000) hx hb dX10_measureNode_102 (by decide) ?_
  refine lv_iconst (v := 1) hx hb dX10_measureNode_105 (by decide) ?_
  refine lv_iload hx hb dX10_measureNode_106 (lv_at hl_10 0 rfl) ?_
  refine lv_iload_n hx hb dX10_measureNode_108 rfl (lv_at hl_10 4 rfl) ?_
  refine lv_imul hx hb dX10_measureNode_109 ?_
  refine lv_topi (fun x_11 ex_11 => ?_)
  obtain rfl : x_11 = 0 := ex_11.trans (by decide)
  refine lv_iadd hx hb dX10_measureNode_110 ?_
  refine lv_topi (fun x_12 ex_12 => ?_)
  obtain rfl : x_12 = 1 := ex_12.trans (by decide)
  refine va_mmin hx hb (by rw [hml]; exact hl_10.1.symm) hown (ht _ tw_1113) (ht _ tw_1114) (ht _ tw_238) (ht _ tw_1115) (Nat.le_of_ble_eq_true rfl) (Nat.le_of_ble_eq_true rfl) (Nat.le_of_ble_eq_true rfl) (Nat.le_of_ble_eq_true rfl) dX10_measureNode_111 ?_
  refine lv_topi (fun x_13 ex_13 => ?_)
  obtain rfl : x_13 = 1 := ex_13.trans (by decide)
  refine va_iast hx hb hK_9 hP_9 hD_9 hS_9 0 0 rfl rfl (i := 0) (vpi (by decide)) dX10_measureNode_114 (fun H_14 locs_14 hP_14 hD_14 hS_14 => ?_)
  have hP_14 : va_P (dC, dI) vwCl [(h1, .inl (k0, 256, .inl (upd (fun _ => 0) 0 1))), (h2, .inl (k1, 256, .inl (fun _ => 0))), (h3, .inl (k2, 256, .inl (fun _ => 0))), (h5, .inl (k4, 256, .inl (upd (fun _ => 0) 0 1))), (h4, .inl (k3, 256, .inl (upd (fun _ => 0) 0 5))), (h0, .inr (13, [.int 0, .int 1, .int 0, .int 0, .ref h4, .ref h6, .ref h5, .ref h7, .ref h8, .ref h9, .ref h10, .ref h11, .ref h12, .ref h1, .ref h2, .ref h3, .ref h13, .ref h14, .ref h15, .ref h16]))] H_14 := hP_14
  have hD_14 : va_D A [(h1, .inl (k0, 256, .inl (upd (fun _ => 0) 0 1))), (h2, .inl (k1, 256, .inl (fun _ => 0))), (h3, .inl (k2, 256, .inl (fun _ => 0))), (h5, .inl (k4, 256, .inl (upd (fun _ => 0) 0 1))), (h4, .inl (k3, 256, .inl (upd (fun _ => 0) 0 5))), (h0, .inr (13, [.int 0, .int 1, .int 0, .int 0, .ref h4, .ref h6, .ref h5, .ref h7, .ref h8, .ref h9, .ref h10, .ref h11, .ref h12, .ref h1, .ref h2, .ref h3, .ref h13, .ref h14, .ref h15, .ref h16]))] := hD_14
  clear hP_9 hD_9 hS_9
  refine lv_aload_n hx hb dX10_measureNode_115 rfl (lv_at hl_10 5 rfl) ?_
  refine va_get (D := (dC, dI)) (ci := 13) (v := .ref h2) (C := RX10) (T := TX10) (N := 20) hx hb ht inX10 hown hK_9 hP_14 5 rfl rfl 14 (by decide) (ht _ tw_337) (fun _ h9 => h9) rfl dX10_measureNode_116 ?_
  refine lv_iload_n hx hb dX10_measureNode_119 rfl (lv_at hl_10 6 rfl) ?_
  refine lv_aload_n hx hb dX10_measureNode_120 rfl (lv_at hl_10 5 rfl) ?_
  refine lv_iload_n hx hb dX10_measureNode_121 rfl (lv_at hl_10 6 rfl) ?_
  have hPc_15 := hP_14.sub (ws' := [(h4, .inl (k3, 256, .inl (upd (fun _ => 0) 0 5))), (h0, .inr (13, [.int 0, .int 1, .int 0, .int 0, .ref h4, .ref h6, .ref h5, .ref h7, .ref h8, .ref h9, .ref h10, .ref h11, .ref h12, .ref h1, .ref h2, .ref h3, .ref h13, .ref h14, .ref h15, .ref h16]))]) [4, 5] rfl
  have hDc_15 := hD_14.sub (ws' := [(h4, .inl (k3, 256, .inl (upd (fun _ => 0) 0 5))), (h0, .inr (13, [.int 0, .int 1, .int 0, .int 0, .ref h4, .ref h6, .ref h5, .ref h7, .ref h8, .ref h9, .ref h10, .ref h11, .ref h12, .ref h1, .ref h2, .ref h3, .ref h13, .ref h14, .ref h15, .ref h16]))]) [4, 5] (by decide) rfl
  have hKc_15 := hK_9.sub (tys' := [(k3, .int)]) [4] rfl
  have hFc_15 := va_free (wc := [(h4, .inl (k3, 256, .inl (upd (fun _ => 0) 0 5))), (h0, .inr (13, [.int 0, .int 1, .int 0, .int 0, .ref h4, .ref h6, .ref h5, .ref h7, .ref h8, .ref h9, .ref h10, .ref h11, .ref h12, .ref h1, .ref h2, .ref h3, .ref h13, .ref h14, .ref h15, .ref h16]))]) hD_14 hS_14 hA [4, 5] rfl
  refine va_calli (va_runV (As := [.int 0]) (rest := [.int 0, .ref h2]) ⟨hx, hb, hml, hown, ht⟩ (mt_X10_takesOneSign l dC dI h0 h4 h6 h5 h7 h8 h9 h10 h11 h12 h1 h2 h3 h13 h14 h15 h16 k3 H_14.size) (cwV 1 ht (goodV tw_1116 tw_1118 tw_36 tw_240 gw_X10_takesOneSign) rfl rfl rfl (by decide +kernel) ⟨Nat.le_of_ble_eq_true rfl, Nat.le_of_ble_eq_true rfl⟩) ⟨fun a U g mk q => by obtain ⟨q0, q1, qP, qK, qD⟩ := q; exact ⟨q0, q1, qP, va_K.moved (u := U) (U := U.calling g mk a) (Vm.Alike.refl U.vm) qK, qD⟩, va_recv hKc_15 hPc_15 (ci := 13) (q0 := 1) rfl rfl, fun U hU hW => ⟨rfl, by rw [hU], by rw [hU]; exact hPc_15, va_K.moved hW.alike hKc_15, hDc_15.weaken (fun _ _ _ _ => trivial)⟩⟩ rfl rfl hl_10.1 rfl (lv_room (Nat.le_of_ble_eq_true rfl)) dX10_measureNode_122 ⟨Nat.le_of_ble_eq_true rfl, Nat.le_of_ble_eq_true rfl⟩) hS_14 (fun q _ h => hFc_15 q h) hFc_15 (fun r_15 u_15 t_15 H_15 locs_15 ht_15 hvm_15 hw_15 hB_15 hz_15 hk_15 hS_15 => ?_)
  obtain ⟨rfl, rfl⟩ := hw_15
  obtain ⟨hP1_15, hK1_15, hD1_15⟩ := hB_15
  rw [ht_15] at hP1_15
  have hK1_15 := va_K.moved hvm_15.symm hK1_15
  obtain ⟨hP_15, hD_15⟩ := va_join (wr := [(h1, .inl (k0, 256, .inl (upd (fun _ => 0) 0 1))), (h2, .inl (k1, 256, .inl (fun _ => 0))), (h3, .inl (k2, 256, .inl (fun _ => 0))), (h5, .inl (k4, 256, .inl (upd (fun _ => 0) 0 1)))]) (w1 := [(h4, .inl (k3, 256, .inl (upd (fun _ => 0) 0 5))), (h0, .inr (13, [.int 0, .int 1, .int 0, .int 0, .ref h4, .ref h6, .ref h5, .ref h7, .ref h8, .ref h9, .ref h10, .ref h11, .ref h12, .ref h1, .ref h2, .ref h3, .ref h13, .ref h14, .ref h15, .ref h16]))]) hP_14 hD_14 [4, 5] [0, 1, 2, 3] rfl rfl (by decide) (by decide) hk_15 hFc_15 hP1_15 hD1_15
  have hK_15 := (hK_9.sub (tys' := [(k0, .int), (k1, .int), (k2, .boolean), (k4, .int)]) [0, 1, 2, 3] rfl).app hK1_15
  have hK_15 : va_K (dC, dI) vwCl [(k0, .int), (k1, .int), (k2, .boolean), (k4, .int), (k3, .int)] s := hK_15
  have hP_15 : va_P (dC, dI) vwCl [(h1, .inl (k0, 256, .inl (upd (fun _ => 0) 0 1))), (h2, .inl (k1, 256, .inl (fun _ => 0))), (h3, .inl (k2, 256, .inl (fun _ => 0))), (h5, .inl (k4, 256, .inl (upd (fun _ => 0) 0 1))), (h4, .inl (k3, 256, .inl (upd (fun _ => 0) 0 5))), (h0, .inr (13, [.int 0, .int 1, .int 0, .int 0, .ref h4, .ref h6, .ref h5, .ref h7, .ref h8, .ref h9, .ref h10, .ref h11, .ref h12, .ref h1, .ref h2, .ref h3, .ref h13, .ref h14, .ref h15, .ref h16]))] H_15 := hP_15
  have hD_15 : va_D A [(h1, .inl (k0, 256, .inl (upd (fun _ => 0) 0 1))), (h2, .inl (k1, 256, .inl (fun _ => 0))), (h3, .inl (k2, 256, .inl (fun _ => 0))), (h5, .inl (k4, 256, .inl (upd (fun _ => 0) 0 1))), (h4, .inl (k3, 256, .inl (upd (fun _ => 0) 0 5))), (h0, .inr (13, [.int 0, .int 1, .int 0, .int 0, .ref h4, .ref h6, .ref h5, .ref h7, .ref h8, .ref h9, .ref h10, .ref h11, .ref h12, .ref h1, .ref h2, .ref h3, .ref h13, .ref h14, .ref h15, .ref h16]))] := hD_15
  clear hP_14 hD_14 hS_14 hK_9 hPc_15 hDc_15 hKc_15 hFc_15 hP1_15 hK1_15 hD1_15 hk_15 hz_15
  refine lv_if_eq (tgt := 132) hx hb dX10_measureNode_125 (by decide) (fun _ => ?_) (fun c_ => absurd (by decide) c_)
  refine lv_sipush (v := 20000) hx hb dX10_measureNode_132 (by decide) ?_
  refine lv_iload hx hb dX10_measureNode_135 (lv_at hl_10 0 rfl) ?_
  refine lv_iload_n hx hb dX10_measureNode_137 rfl (lv_at hl_10 3 rfl) ?_
  refine lv_imul hx hb dX10_measureNode_138 ?_
  refine lv_topi (fun x_16 ex_16 => ?_)
  obtain rfl : x_16 = 0 := ex_16.trans (by decide)
  refine va_mmin hx hb (by rw [hml]; exact hl_10.1.symm) hown (ht _ tw_1113) (ht _ tw_1114) (ht _ tw_238) (ht _ tw_1115) (Nat.le_of_ble_eq_true rfl) (Nat.le_of_ble_eq_true rfl) (Nat.le_of_ble_eq_true rfl) (Nat.le_of_ble_eq_true rfl) dX10_measureNode_139 ?_
  refine lv_topi (fun x_17 ex_17 => ?_)
  obtain rfl : x_17 = 0 := ex_17.trans (by decide)
  refine va_iast hx hb hK_15 hP_15 hD_15 hS_15 1 1 rfl rfl (i := 0) (vpi (by decide)) dX10_measureNode_142 (fun H_18 locs_18 hP_18 hD_18 hS_18 => ?_)
  have hP_18 : va_P (dC, dI) vwCl [(h1, .inl (k0, 256, .inl (upd (fun _ => 0) 0 1))), (h2, .inl (k1, 256, .inl (upd (fun _ => 0) 0 0))), (h3, .inl (k2, 256, .inl (fun _ => 0))), (h5, .inl (k4, 256, .inl (upd (fun _ => 0) 0 1))), (h4, .inl (k3, 256, .inl (upd (fun _ => 0) 0 5))), (h0, .inr (13, [.int 0, .int 1, .int 0, .int 0, .ref h4, .ref h6, .ref h5, .ref h7, .ref h8, .ref h9, .ref h10, .ref h11, .ref h12, .ref h1, .ref h2, .ref h3, .ref h13, .ref h14, .ref h15, .ref h16]))] H_18 := hP_18
  have hD_18 : va_D A [(h1, .inl (k0, 256, .inl (upd (fun _ => 0) 0 1))), (h2, .inl (k1, 256, .inl (upd (fun _ => 0) 0 0))), (h3, .inl (k2, 256, .inl (fun _ => 0))), (h5, .inl (k4, 256, .inl (upd (fun _ => 0) 0 1))), (h4, .inl (k3, 256, .inl (upd (fun _ => 0) 0 5))), (h0, .inr (13, [.int 0, .int 1, .int 0, .int 0, .ref h4, .ref h6, .ref h5, .ref h7, .ref h8, .ref h9, .ref h10, .ref h11, .ref h12, .ref h1, .ref h2, .ref h3, .ref h13, .ref h14, .ref h15, .ref h16]))] := hD_18
  clear hP_15 hD_15 hS_15
  refine lv_aload_n hx hb dX10_measureNode_143 rfl (lv_at hl_10 5 rfl) ?_
  refine va_get (D := (dC, dI)) (ci := 13) (v := .ref h3) (C := RX10) (T := TX10) (N := 20) hx hb ht inX10 hown hK_15 hP_18 5 rfl rfl 15 (by decide) (ht _ tw_338) (fun _ h9 => h9) rfl dX10_measureNode_144 ?_
  refine lv_iload_n hx hb dX10_measureNode_147 rfl (lv_at hl_10 6 rfl) ?_
  refine lv_aload_n hx hb dX10_measureNode_148 rfl (lv_at hl_10 5 rfl) ?_
  refine lv_iload_n hx hb dX10_measureNode_149 rfl (lv_at hl_10 6 rfl) ?_
  refine lv_iload hx hb dX10_measureNode_150 (lv_at hl_10 2 rfl) ?_
  refine lv_iload hx hb dX10_measureNode_152 (lv_at hl_10 1 rfl) ?_
  have hPc_19 := hP_18.sub (ws' := [(h4, .inl (k3, 256, .inl (upd (fun _ => 0) 0 5))), (h0, .inr (13, [.int 0, .int 1, .int 0, .int 0, .ref h4, .ref h6, .ref h5, .ref h7, .ref h8, .ref h9, .ref h10, .ref h11, .ref h12, .ref h1, .ref h2, .ref h3, .ref h13, .ref h14, .ref h15, .ref h16]))]) [4, 5] rfl
  have hDc_19 := hD_18.sub (ws' := [(h4, .inl (k3, 256, .inl (upd (fun _ => 0) 0 5))), (h0, .inr (13, [.int 0, .int 1, .int 0, .int 0, .ref h4, .ref h6, .ref h5, .ref h7, .ref h8, .ref h9, .ref h10, .ref h11, .ref h12, .ref h1, .ref h2, .ref h3, .ref h13, .ref h14, .ref h15, .ref h16]))]) [4, 5] (by decide) rfl
  have hKc_19 := hK_15.sub (tys' := [(k3, .int)]) [4] rfl
  have hFc_19 := va_free (wc := [(h4, .inl (k3, 256, .inl (upd (fun _ => 0) 0 5))), (h0, .inr (13, [.int 0, .int 1, .int 0, .int 0, .ref h4, .ref h6, .ref h5, .ref h7, .ref h8, .ref h9, .ref h10, .ref h11, .ref h12, .ref h1, .ref h2, .ref h3, .ref h13, .ref h14, .ref h15, .ref h16]))]) hD_18 hS_18 hA [4, 5] rfl
  refine va_calli (va_runV (As := [.int 0, .int 1, .int 0]) (rest := [.int 0, .ref h3]) ⟨hx, hb, hml, hown, ht⟩ (mt_X10_maybeEmpty l dC dI h0 h4 h6 h5 h7 h8 h9 h10 h11 h12 h1 h2 h3 h13 h14 h15 h16 k3 H_18.size) (cwV 3 ht (goodV tw_1120 tw_1122 tw_37 tw_240 gw_X10_maybeEmpty) rfl rfl rfl (by decide +kernel) ⟨Nat.le_of_ble_eq_true rfl, Nat.le_of_ble_eq_true rfl⟩) ⟨fun a U g mk q => by obtain ⟨q0, q1, qP, qK, qD⟩ := q; exact ⟨q0, q1, qP, va_K.moved (u := U) (U := U.calling g mk a) (Vm.Alike.refl U.vm) qK, qD⟩, va_recv hKc_19 hPc_19 (ci := 13) (q0 := 1) rfl rfl, fun U hU hW => ⟨rfl, by rw [hU], by rw [hU]; exact hPc_19, va_K.moved hW.alike hKc_19, hDc_19.weaken (fun _ _ _ _ => trivial)⟩⟩ rfl rfl hl_10.1 rfl (lv_room (Nat.le_of_ble_eq_true rfl)) dX10_measureNode_154 ⟨Nat.le_of_ble_eq_true rfl, Nat.le_of_ble_eq_true rfl⟩) hS_18 (fun q _ h => hFc_19 q h) hFc_19 (fun r_19 u_19 t_19 H_19 locs_19 ht_19 hvm_19 hw_19 hB_19 hz_19 hk_19 hS_19 => ?_)
  obtain ⟨rfl, rfl⟩ := hw_19
  obtain ⟨hP1_19, hK1_19, hD1_19⟩ := hB_19
  rw [ht_19] at hP1_19
  have hK1_19 := va_K.moved hvm_19.symm hK1_19
  obtain ⟨hP_19, hD_19⟩ := va_join (wr := [(h1, .inl (k0, 256, .inl (upd (fun _ => 0) 0 1))), (h2, .inl (k1, 256, .inl (upd (fun _ => 0) 0 0))), (h3, .inl (k2, 256, .inl (fun _ => 0))), (h5, .inl (k4, 256, .inl (upd (fun _ => 0) 0 1)))]) (w1 := [(h4, .inl (k3, 256, .inl (upd (fun _ => 0) 0 5))), (h0, .inr (13, [.int 0, .int 1, .int 0, .int 0, .ref h4, .ref h6, .ref h5, .ref h7, .ref h8, .ref h9, .ref h10, .ref h11, .ref h12, .ref h1, .ref h2, .ref h3, .ref h13, .ref h14, .ref h15, .ref h16]))]) hP_18 hD_18 [4, 5] [0, 1, 2, 3] rfl rfl (by decide) (by decide) hk_19 hFc_19 hP1_19 hD1_19
  have hK_19 := (hK_15.sub (tys' := [(k0, .int), (k1, .int), (k2, .boolean), (k4, .int)]) [0, 1, 2, 3] rfl).app hK1_19
  have hK_19 : va_K (dC, dI) vwCl [(k0, .int), (k1, .int), (k2, .boolean), (k4, .int), (k3, .int)] s := hK_19
  have hP_19 : va_P (dC, dI) vwCl [(h1, .inl (k0, 256, .inl (upd (fun _ => 0) 0 1))), (h2, .inl (k1, 256, .inl (upd (fun _ => 0) 0 0))), (h3, .inl (k2, 256, .inl (fun _ => 0))), (h5, .inl (k4, 256, .inl (upd (fun _ => 0) 0 1))), (h4, .inl (k3, 256, .inl (upd (fun _ => 0) 0 5))), (h0, .inr (13, [.int 0, .int 1, .int 0, .int 0, .ref h4, .ref h6, .ref h5, .ref h7, .ref h8, .ref h9, .ref h10, .ref h11, .ref h12, .ref h1, .ref h2, .ref h3, .ref h13, .ref h14, .ref h15, .ref h16]))] H_19 := hP_19
  have hD_19 : va_D A [(h1, .inl (k0, 256, .inl (upd (fun _ => 0) 0 1))), (h2, .inl (k1, 256, .inl (upd (fun _ => 0) 0 0))), (h3, .inl (k2, 256, .inl (fun _ => 0))), (h5, .inl (k4, 256, .inl (upd (fun _ => 0) 0 1))), (h4, .inl (k3, 256, .inl (upd (fun _ => 0) 0 5))), (h0, .inr (13, [.int 0, .int 1, .int 0, .int 0, .ref h4, .ref h6, .ref h5, .ref h7, .ref h8, .ref h9, .ref h10, .ref h11, .ref h12, .ref h1, .ref h2, .ref h3, .ref h13, .ref h14, .ref h15, .ref h16]))] := hD_19
  clear hP_18 hD_18 hS_18 hK_15 hPc_19 hDc_19 hKc_19 hFc_19 hP1_19 hK1_19 hD1_19 hk_19 hz_19
  refine va_zast hx hb hK_19 hP_19 hD_19 hS_19 2 2 rfl rfl (i := 0) (vpi (by decide)) dX10_measureNode_157 (fun H_20 locs_20 hP_20 hD_20 hS_20 => ?_)
  have hP_20 : va_P (dC, dI) vwCl [(h1, .inl (k0, 256, .inl (upd (fun _ => 0) 0 1))), (h2, .inl (k1, 256, .inl (upd (fun _ => 0) 0 0))), (h3, .inl (k2, 256, .inl (upd (fun _ => 0) 0 1))), (h5, .inl (k4, 256, .inl (upd (fun _ => 0) 0 1))), (h4, .inl (k3, 256, .inl (upd (fun _ => 0) 0 5))), (h0, .inr (13, [.int 0, .int 1, .int 0, .int 0, .ref h4, .ref h6, .ref h5, .ref h7, .ref h8, .ref h9, .ref h10, .ref h11, .ref h12, .ref h1, .ref h2, .ref h3, .ref h13, .ref h14, .ref h15, .ref h16]))] H_20 := hP_20
  have hD_20 : va_D A [(h1, .inl (k0, 256, .inl (upd (fun _ => 0) 0 1))), (h2, .inl (k1, 256, .inl (upd (fun _ => 0) 0 0))), (h3, .inl (k2, 256, .inl (upd (fun _ => 0) 0 1))), (h5, .inl (k4, 256, .inl (upd (fun _ => 0) 0 1))), (h4, .inl (k3, 256, .inl (upd (fun _ => 0) 0 5))), (h0, .inr (13, [.int 0, .int 1, .int 0, .int 0, .ref h4, .ref h6, .ref h5, .ref h7, .ref h8, .ref h9, .ref h10, .ref h11, .ref h12, .ref h1, .ref h2, .ref h3, .ref h13, .ref h14, .ref h15, .ref h16]))] := hD_20
  clear hP_19 hD_19 hS_19
  have hP9 := hP_20.sub (ws' := [(h1, .inl (k0, 256, .inl (upd (fun _ => 0) 0 1))), (h2, .inl (k1, 256, .inl (upd (fun _ => 0) 0 0))), (h3, .inl (k2, 256, .inl (upd (fun _ => 0) 0 1))), (h5, .inl (k4, 256, .inl (upd (fun _ => 0) 0 1))), (h4, .inl (k3, 256, .inl (upd (fun _ => 0) 0 5))), (h0, .inr (13, [.int 0, .int 1, .int 0, .int 0, .ref h4, .ref h6, .ref h5, .ref h7, .ref h8, .ref h9, .ref h10, .ref h11, .ref h12, .ref h1, .ref h2, .ref h3, .ref h13, .ref h14, .ref h15, .ref h16]))]) [0, 1, 2, 3, 4, 5] rfl
  have hD9 := hD_20.sub (ws' := [(h1, .inl (k0, 256, .inl (upd (fun _ => 0) 0 1))), (h2, .inl (k1, 256, .inl (upd (fun _ => 0) 0 0))), (h3, .inl (k2, 256, .inl (upd (fun _ => 0) 0 1))), (h5, .inl (k4, 256, .inl (upd (fun _ => 0) 0 1))), (h4, .inl (k3, 256, .inl (upd (fun _ => 0) 0 5))), (h0, .inr (13, [.int 0, .int 1, .int 0, .int 0, .ref h4, .ref h6, .ref h5, .ref h7, .ref h8, .ref h9, .ref h10, .ref h11, .ref h12, .ref h1, .ref h2, .ref h3, .ref h13, .ref h14, .ref h15, .ref h16]))]) [0, 1, 2, 3, 4, 5] (by decide) rfl
  have hK9 := hK_19.sub (tys' := [(k0, .int), (k1, .int), (k2, .boolean), (k4, .int), (k3, .int)]) [0, 1, 2, 3, 4] rfl
  refine W.widen (k := 0) (n := 0) (by decide) (by decide) ?_
  exact W.vret hx hb hr (fun t9 ht9 hW9 => ⟨⟨0, rfl, rfl, ⟨by rw [ht9]; exact hP9, va_K.moved hW9.alike hK9, hD9⟩⟩, hS_20.F ht9⟩) hS_20.2.2 dX10_measureNode_158
set_option maxHeartbeats 4000000 in
set_option maxRecDepth 100000 in
theorem mt_X10_measure (l : Launch) (dC : Nat → ClassId) (dI : Nat → Nat → Nat) (h0 h1 h2 h3 h4 h5 h6 h7 h8 h9 h10 h11 h12 h13 h14 h15 h16 : Nat) (k0 k1 k2 k3 k4 k5 k6 : ClassId) (sz : Nat) : Met l yX10_measure (WS yX10_measure cX10_measure 2 none) ({ frames := 3, cells := 0, slots := 0, locals := 70 }) (va_Pc [.ref h0] (fun U => U.heap.size = sz ∧ va_P (dC, dI) vwCl [(h1, .inl (k0, 256, .inl (fun _ => 0))), (h2, .inl (k1, 256, .inl (fun _ => 0))), (h3, .inl (k2, 256, .inl (fun _ => 0))), (h4, .inl (k3, 256, .inl (fun _ => 0))), (h5, .inl (k4, 256, .inl (upd (fun _ => 0) 0 5))), (h6, .inl (k5, 256, .inl (upd (fun _ => 0) 0 (-1)))), (h7, .inl (k6, 256, .inl (upd (fun _ => 0) 0 1))), (h0, .inr (13, [.int 0, .int 1, .int 0, .int 0, .ref h5, .ref h6, .ref h7, .ref h8, .ref h9, .ref h10, .ref h11, .ref h12, .ref h13, .ref h1, .ref h2, .ref h3, .ref h4, .ref h14, .ref h15, .ref h16]))] U.heap ∧ va_K (dC, dI) vwCl [(k0, .int), (k1, .int), (k2, .boolean), (k3, .boolean), (k4, .int), (k5, .int), (k6, .int)] U ∧ va_D (fun _ => True) [(h1, .inl (k0, 256, .inl (fun _ => 0))), (h2, .inl (k1, 256, .inl (fun _ => 0))), (h3, .inl (k2, 256, .inl (fun _ => 0))), (h4, .inl (k3, 256, .inl (fun _ => 0))), (h5, .inl (k4, 256, .inl (upd (fun _ => 0) 0 5))), (h6, .inl (k5, 256, .inl (upd (fun _ => 0) 0 (-1)))), (h7, .inl (k6, 256, .inl (upd (fun _ => 0) 0 1))), (h0, .inr (13, [.int 0, .int 1, .int 0, .int 0, .ref h5, .ref h6, .ref h7, .ref h8, .ref h9, .ref h10, .ref h11, .ref h12, .ref h13, .ref h1, .ref h2, .ref h3, .ref h4, .ref h14, .ref h15, .ref h16]))])) (va_Qv (fun (u : Nat) => (u = 0)) (fun (_ : Nat) (t : State) => (va_P (dC, dI) vwCl [(h4, .inl (k3, 256, .inl (upd (fun _ => 0) 0 0))), (h6, .inl (k5, 256, .inl (upd (fun _ => 0) 0 (-1)))), (h1, .inl (k0, 256, .inl (upd (fun _ => 0) 0 1))), (h2, .inl (k1, 256, .inl (upd (fun _ => 0) 0 0))), (h3, .inl (k2, 256, .inl (upd (fun _ => 0) 0 1))), (h7, .inl (k6, 256, .inl (upd (fun _ => 0) 0 1))), (h5, .inl (k4, 256, .inl (upd (fun _ => 0) 0 5))), (h0, .inr (13, [.int 0, .int 1, .int 0, .int 0, .ref h5, .ref h6, .ref h7, .ref h8, .ref h9, .ref h10, .ref h11, .ref h12, .ref h13, .ref h1, .ref h2, .ref h3, .ref h4, .ref h14, .ref h15, .ref h16]))] t.heap ∧ va_K (dC, dI) vwCl [(k3, .boolean), (k5, .int), (k0, .int), (k1, .int), (k2, .boolean), (k6, .int), (k4, .int)] t ∧ va_D (va_A [(h1, .inl (k0, 256, .inl (fun _ => 0))), (h2, .inl (k1, 256, .inl (fun _ => 0))), (h3, .inl (k2, 256, .inl (fun _ => 0))), (h4, .inl (k3, 256, .inl (fun _ => 0))), (h5, .inl (k4, 256, .inl (upd (fun _ => 0) 0 5))), (h6, .inl (k5, 256, .inl (upd (fun _ => 0) 0 (-1)))), (h7, .inl (k6, 256, .inl (upd (fun _ => 0) 0 1))), (h0, .inr (13, [.int 0, .int 1, .int 0, .int 0, .ref h5, .ref h6, .ref h7, .ref h8, .ref h9, .ref h10, .ref h11, .ref h12, .ref h13, .ref h1, .ref h2, .ref h3, .ref h4, .ref h14, .ref h15, .ref h16]))] sz) [(h4, .inl (k3, 256, .inl (upd (fun _ => 0) 0 0))), (h6, .inl (k5, 256, .inl (upd (fun _ => 0) 0 (-1)))), (h1, .inl (k0, 256, .inl (upd (fun _ => 0) 0 1))), (h2, .inl (k1, 256, .inl (upd (fun _ => 0) 0 0))), (h3, .inl (k2, 256, .inl (upd (fun _ => 0) 0 1))), (h7, .inl (k6, 256, .inl (upd (fun _ => 0) 0 1))), (h5, .inl (k4, 256, .inl (upd (fun _ => 0) 0 5))), (h0, .inr (13, [.int 0, .int 1, .int 0, .int 0, .ref h5, .ref h6, .ref h7, .ref h8, .ref h9, .ref h10, .ref h11, .ref h12, .ref h13, .ref h1, .ref h2, .ref h3, .ref h4, .ref h14, .ref h15, .ref h16]))])) (va_A [(h1, .inl (k0, 256, .inl (fun _ => 0))), (h2, .inl (k1, 256, .inl (fun _ => 0))), (h3, .inl (k2, 256, .inl (fun _ => 0))), (h4, .inl (k3, 256, .inl (fun _ => 0))), (h5, .inl (k4, 256, .inl (upd (fun _ => 0) 0 5))), (h6, .inl (k5, 256, .inl (upd (fun _ => 0) 0 (-1)))), (h7, .inl (k6, 256, .inl (upd (fun _ => 0) 0 1))), (h0, .inr (13, [.int 0, .int 1, .int 0, .int 0, .ref h5, .ref h6, .ref h7, .ref h8, .ref h9, .ref h10, .ref h11, .ref h12, .ref h13, .ref h1, .ref h2, .ref h3, .ref h4, .ref h14, .ref h15, .ref h16]))] sz)) 0 0 (va_A [(h1, .inl (k0, 256, .inl (fun _ => 0))), (h2, .inl (k1, 256, .inl (fun _ => 0))), (h3, .inl (k2, 256, .inl (fun _ => 0))), (h4, .inl (k3, 256, .inl (fun _ => 0))), (h5, .inl (k4, 256, .inl (upd (fun _ => 0) 0 5))), (h6, .inl (k5, 256, .inl (upd (fun _ => 0) 0 (-1)))), (h7, .inl (k6, 256, .inl (upd (fun _ => 0) 0 1))), (h0, .inr (13, [.int 0, .int 1, .int 0, .int 0, .ref h5, .ref h6, .ref h7, .ref h8, .ref h9, .ref h10, .ref h11, .ref h12, .ref h13, .ref h1, .ref h2, .ref h3, .ref h4, .ref h14, .ref h15, .ref h16]))] sz) := by
  refine Met.ofW (cc := cX10_measure) (maxL := 2) (ret := none) (by decide) rfl ?_
  intro p e s m args below meth c s₁ B hml hv
  obtain ⟨rfl, hsz, hP, hK, hD0⟩ := hv
  have hx := B.exec
  have hb := B.bytes
  have hr := B.returns
  have hts := atoms_spec (ws := WS yX10_measure cX10_measure 2 none) B.pre
  have ht : ∀ w ∈ TW, w.before _ s = true := fun w h => hts w (List.mem_cons_of_mem _ h)
  have hown : s.vm.findClass "PatternWorkshop$Tree" = some m.cls := findClass_of_methodNamed B.named
  have hlocks := B.notSynchronized
  subst hsz
  have hD := hD0.self (sz := s.heap.size)
  generalize hAe : va_A [(h1, .inl (k0, 256, .inl (fun _ => 0))), (h2, .inl (k1, 256, .inl (fun _ => 0))), (h3, .inl (k2, 256, .inl (fun _ => 0))), (h4, .inl (k3, 256, .inl (fun _ => 0))), (h5, .inl (k4, 256, .inl (upd (fun _ => 0) 0 5))), (h6, .inl (k5, 256, .inl (upd (fun _ => 0) 0 (-1)))), (h7, .inl (k6, 256, .inl (upd (fun _ => 0) 0 1))), (h0, .inr (13, [.int 0, .int 1, .int 0, .int 0, .ref h5, .ref h6, .ref h7, .ref h8, .ref h9, .ref h10, .ref h11, .ref h12, .ref h13, .ref h1, .ref h2, .ref h3, .ref h4, .ref h14, .ref h15, .ref h16]))] s.heap.size = A at hD ⊢
  have hA : ∀ q : Nat, s.heap.size ≤ q → A q := fun q h => by rw [← hAe]; exact Or.inr h
  have hS : va_S A s.heap s.heap [] := va_S.rf
  have hP : va_P (dC, dI) vwCl [(h1, .inl (k0, 256, .inl (fun _ => 0))), (h2, .inl (k1, 256, .inl (fun _ => 0))), (h3, .inl (k2, 256, .inl (fun _ => 0))), (h4, .inl (k3, 256, .inl (fun _ => 0))), (h5, .inl (k4, 256, .inl (upd (fun _ => 0) 0 5))), (h6, .inl (k5, 256, .inl (upd (fun _ => 0) 0 (-1)))), (h7, .inl (k6, 256, .inl (upd (fun _ => 0) 0 1))), (h0, .inr (13, [.int 0, .int 1, .int 0, .int 0, .ref h5, .ref h6, .ref h7, .ref h8, .ref h9, .ref h10, .ref h11, .ref h12, .ref h13, .ref h1, .ref h2, .ref h3, .ref h4, .ref h14, .ref h15, .ref h16]))] s.heap := hP
  have hl := lv_entry ([.ref h0]) (n := 2) (Nat.le_of_ble_eq_true rfl)
  rw [lg_entry_eq]
  generalize (lg_sl ([.ref h0]) ++ List.replicate (2 - (lg_sl ([.ref h0])).length) Slot.unset).toArray = ls at hl ⊢
  have hl : lv_has ls 2 [(0, .ref h0)] := hl
  clear hD0
  refine lv_iconst (v := 0) hx hb dX10_measure_0 (by decide) ?_
  refine lv_istore_n (lv' := [(1, .int 0), (0, .ref h0)]) hx hb dX10_measure_1 rfl hl (by decide) rfl (fun ls_1 hl_1 => ?_)
  clear hl
  refine lv_aload_n hx hb dX10_measure_2 rfl (lv_at hl_1 1 rfl) ?_
  refine lv_iload_n hx hb dX10_measure_3 rfl (lv_at hl_1 0 rfl) ?_
  have hPc_2 := hP.sub (ws' := [(h0, .inr (13, [.int 0, .int 1, .int 0, .int 0, .ref h5, .ref h6, .ref h7, .ref h8, .ref h9, .ref h10, .ref h11, .ref h12, .ref h13, .ref h1, .ref h2, .ref h3, .ref h4, .ref h14, .ref h15, .ref h16]))]) [7] rfl
  have hDc_2 := hD.sub (ws' := [(h0, .inr (13, [.int 0, .int 1, .int 0, .int 0, .ref h5, .ref h6, .ref h7, .ref h8, .ref h9, .ref h10, .ref h11, .ref h12, .ref h13, .ref h1, .ref h2, .ref h3, .ref h4, .ref h14, .ref h15, .ref h16]))]) [7] (by decide) rfl
  have hKc_2 := hK.sub (tys' := []) [] rfl
  have hFc_2 := va_free (wc := [(h0, .inr (13, [.int 0, .int 1, .int 0, .int 0, .ref h5, .ref h6, .ref h7, .ref h8, .ref h9, .ref h10, .ref h11, .ref h12, .ref h13, .ref h1, .ref h2, .ref h3, .ref h4, .ref h14, .ref h15, .ref h16]))]) hD hS hA [7] rfl
  refine va_calli (va_runV (As := [.int 0]) (rest := []) ⟨hx, hb, hml, hown, ht⟩ (mt_X10_has_v2 l dC dI h0 h5 h6 h7 h8 h9 h10 h11 h12 h13 h1 h2 h3 h4 h14 h15 h16 s.heap.size) (cwV 1 ht (goodV tw_1069 tw_1070 tw_1071 tw_240 gw_X10_has) rfl rfl rfl (by decide +kernel) ⟨Nat.le_of_ble_eq_true rfl, Nat.le_of_ble_eq_true rfl⟩) ⟨fun a U g mk q => by obtain ⟨q0, q1, qP, qK, qD⟩ := q; exact ⟨q0, q1, qP, va_K.moved (u := U) (U := U.calling g mk a) (Vm.Alike.refl U.vm) qK, qD⟩, va_recv hKc_2 hPc_2 (ci := 13) (q0 := 0) rfl rfl, fun U hU hW => ⟨rfl, by rw [hU], by rw [hU]; exact hPc_2, va_K.moved hW.alike hKc_2, hDc_2.weaken (fun _ _ _ _ => trivial)⟩⟩ rfl rfl hl_1.1 rfl (lv_room (Nat.le_of_ble_eq_true rfl)) dX10_measure_4 ⟨Nat.le_of_ble_eq_true rfl, Nat.le_of_ble_eq_true rfl⟩) hS (fun q _ h => hFc_2 q h) hFc_2 (fun r_2 u_2 t_2 H_2 locs_2 ht_2 hvm_2 hw_2 hB_2 hz_2 hk_2 hS_2 => ?_)
  obtain ⟨rfl, rfl⟩ := hw_2
  obtain ⟨hP1_2, hK1_2, hD1_2⟩ := hB_2
  rw [ht_2] at hP1_2
  have hK1_2 := va_K.moved hvm_2.symm hK1_2
  obtain ⟨hP_2, hD_2⟩ := va_join (wr := [(h1, .inl (k0, 256, .inl (fun _ => 0))), (h2, .inl (k1, 256, .inl (fun _ => 0))), (h3, .inl (k2, 256, .inl (fun _ => 0))), (h4, .inl (k3, 256, .inl (fun _ => 0))), (h5, .inl (k4, 256, .inl (upd (fun _ => 0) 0 5))), (h6, .inl (k5, 256, .inl (upd (fun _ => 0) 0 (-1)))), (h7, .inl (k6, 256, .inl (upd (fun _ => 0) 0 1)))]) (w1 := [(h0, .inr (13, [.int 0, .int 1, .int 0, .int 0, .ref h5, .ref h6, .ref h7, .ref h8, .ref h9, .ref h10, .ref h11, .ref h12, .ref h13, .ref h1, .ref h2, .ref h3, .ref h4, .ref h14, .ref h15, .ref h16]))]) hP hD [7] [0, 1, 2, 3, 4, 5, 6] rfl rfl (by decide) (by decide) hk_2 hFc_2 hP1_2 hD1_2
  have hK_2 := (hK.sub (tys' := [(k0, .int), (k1, .int), (k2, .boolean), (k3, .boolean), (k4, .int), (k5, .int), (k6, .int)]) [0, 1, 2, 3, 4, 5, 6] rfl).app hK1_2
  have hK_2 : va_K (dC, dI) vwCl [(k0, .int), (k1, .int), (k2, .boolean), (k3, .boolean), (k4, .int), (k5, .int), (k6, .int)] s := hK_2
  have hP_2 : va_P (dC, dI) vwCl [(h1, .inl (k0, 256, .inl (fun _ => 0))), (h2, .inl (k1, 256, .inl (fun _ => 0))), (h3, .inl (k2, 256, .inl (fun _ => 0))), (h4, .inl (k3, 256, .inl (fun _ => 0))), (h5, .inl (k4, 256, .inl (upd (fun _ => 0) 0 5))), (h6, .inl (k5, 256, .inl (upd (fun _ => 0) 0 (-1)))), (h7, .inl (k6, 256, .inl (upd (fun _ => 0) 0 1))), (h0, .inr (13, [.int 0, .int 1, .int 0, .int 0, .ref h5, .ref h6, .ref h7, .ref h8, .ref h9, .ref h10, .ref h11, .ref h12, .ref h13, .ref h1, .ref h2, .ref h3, .ref h4, .ref h14, .ref h15, .ref h16]))] H_2 := hP_2
  have hD_2 : va_D A [(h1, .inl (k0, 256, .inl (fun _ => 0))), (h2, .inl (k1, 256, .inl (fun _ => 0))), (h3, .inl (k2, 256, .inl (fun _ => 0))), (h4, .inl (k3, 256, .inl (fun _ => 0))), (h5, .inl (k4, 256, .inl (upd (fun _ => 0) 0 5))), (h6, .inl (k5, 256, .inl (upd (fun _ => 0) 0 (-1)))), (h7, .inl (k6, 256, .inl (upd (fun _ => 0) 0 1))), (h0, .inr (13, [.int 0, .int 1, .int 0, .int 0, .ref h5, .ref h6, .ref h7, .ref h8, .ref h9, .ref h10, .ref h11, .ref h12, .ref h13, .ref h1, .ref h2, .ref h3, .ref h4, .ref h14, .ref h15, .ref h16]))] := hD_2
  clear hP hD hS hK hPc_2 hDc_2 hKc_2 hFc_2 hP1_2 hK1_2 hD1_2 hk_2 hz_2
  refine lv_if_eq (tgt := 69) hx hb dX10_measure_7 (by decide) (fun c_ => absurd c_ (by decide)) (fun _ => ?_)
  refine lv_aload_n hx hb dX10_measure_10 rfl (lv_at hl_1 1 rfl) ?_
  refine va_get (D := (dC, dI)) (ci := 13) (v := .ref h4) (C := RX10) (T := TX10) (N := 20) hx hb ht inX10 hown hK_2 hP_2 7 rfl rfl 16 (by decide) (ht _ tw_339) (fun _ h9 => h9) rfl dX10_measure_11 ?_
  refine lv_iload_n hx hb dX10_measure_14 rfl (lv_at hl_1 0 rfl) ?_
  refine lv_aload_n hx hb dX10_measure_15 rfl (lv_at hl_1 1 rfl) ?_
  refine lv_aload_n hx hb dX10_measure_16 rfl (lv_at hl_1 1 rfl) ?_
  refine va_get (D := (dC, dI)) (ci := 13) (v := .ref h6) (C := RX10) (T := TX10) (N := 20) hx hb ht inX10 hown hK_2 hP_2 7 rfl rfl 5 (by decide) (ht _ tw_328) (fun _ h9 => h9) rfl dX10_measure_17 ?_
  refine lv_iload_n hx hb dX10_measure_20 rfl (lv_at hl_1 0 rfl) ?_
  refine va_iald hx hb hK_2 hP_2 5 5 rfl rfl (i := 0) (vpi (by decide)) dX10_measure_21 ?_
  refine W.eq (g2 := F0 m 22 ls_1 [.int (-1), .ref h0, .int 0, .ref h4]) rfl ?_
  have hPc_3 := hP_2.sub (ws' := [(h0, .inr (13, [.int 0, .int 1, .int 0, .int 0, .ref h5, .ref h6, .ref h7, .ref h8, .ref h9, .ref h10, .ref h11, .ref h12, .ref h13, .ref h1, .ref h2, .ref h3, .ref h4, .ref h14, .ref h15, .ref h16]))]) [7] rfl
  have hDc_3 := hD_2.sub (ws' := [(h0, .inr (13, [.int 0, .int 1, .int 0, .int 0, .ref h5, .ref h6, .ref h7, .ref h8, .ref h9, .ref h10, .ref h11, .ref h12, .ref h13, .ref h1, .ref h2, .ref h3, .ref h4, .ref h14, .ref h15, .ref h16]))]) [7] (by decide) rfl
  have hKc_3 := hK_2.sub (tys' := []) [] rfl
  have hFc_3 := va_free (wc := [(h0, .inr (13, [.int 0, .int 1, .int 0, .int 0, .ref h5, .ref h6, .ref h7, .ref h8, .ref h9, .ref h10, .ref h11, .ref h12, .ref h13, .ref h1, .ref h2, .ref h3, .ref h4, .ref h14, .ref h15, .ref h16]))]) hD_2 hS_2 hA [7] rfl
  refine va_calli (va_runV (As := [.int (-1)]) (rest := [.int 0, .ref h4]) ⟨hx, hb, hml, hown, ht⟩ (mt_X10_isWithinCase l dC dI h0 h5 h6 h7 h8 h9 h10 h11 h12 h13 h1 h2 h3 h4 h14 h15 h16 H_2.size) (cwV 1 ht (goodV tw_1081 tw_1082 tw_1083 tw_240 gw_X10_isWithinCase) rfl rfl rfl (by decide +kernel) ⟨Nat.le_of_ble_eq_true rfl, Nat.le_of_ble_eq_true rfl⟩) ⟨fun a U g mk q => by obtain ⟨q0, q1, qP, qK, qD⟩ := q; exact ⟨q0, q1, qP, va_K.moved (u := U) (U := U.calling g mk a) (Vm.Alike.refl U.vm) qK, qD⟩, va_recv hKc_3 hPc_3 (ci := 13) (q0 := 0) rfl rfl, fun U hU hW => ⟨rfl, by rw [hU], by rw [hU]; exact hPc_3, va_K.moved hW.alike hKc_3, hDc_3.weaken (fun _ _ _ _ => trivial)⟩⟩ rfl rfl hl_1.1 rfl (lv_room (Nat.le_of_ble_eq_true rfl)) dX10_measure_22 ⟨Nat.le_of_ble_eq_true rfl, Nat.le_of_ble_eq_true rfl⟩) hS_2 (fun q _ h => hFc_3 q h) hFc_3 (fun r_3 u_3 t_3 H_3 locs_3 ht_3 hvm_3 hw_3 hB_3 hz_3 hk_3 hS_3 => ?_)
  obtain ⟨rfl, rfl⟩ := hw_3
  obtain ⟨hP1_3, hK1_3, hD1_3⟩ := hB_3
  rw [ht_3] at hP1_3
  have hK1_3 := va_K.moved hvm_3.symm hK1_3
  obtain ⟨hP_3, hD_3⟩ := va_join (wr := [(h1, .inl (k0, 256, .inl (fun _ => 0))), (h2, .inl (k1, 256, .inl (fun _ => 0))), (h3, .inl (k2, 256, .inl (fun _ => 0))), (h4, .inl (k3, 256, .inl (fun _ => 0))), (h5, .inl (k4, 256, .inl (upd (fun _ => 0) 0 5))), (h6, .inl (k5, 256, .inl (upd (fun _ => 0) 0 (-1)))), (h7, .inl (k6, 256, .inl (upd (fun _ => 0) 0 1)))]) (w1 := [(h0, .inr (13, [.int 0, .int 1, .int 0, .int 0, .ref h5, .ref h6, .ref h7, .ref h8, .ref h9, .ref h10, .ref h11, .ref h12, .ref h13, .ref h1, .ref h2, .ref h3, .ref h4, .ref h14, .ref h15, .ref h16]))]) hP_2 hD_2 [7] [0, 1, 2, 3, 4, 5, 6] rfl rfl (by decide) (by decide) hk_3 hFc_3 hP1_3 hD1_3
  have hK_3 := (hK_2.sub (tys' := [(k0, .int), (k1, .int), (k2, .boolean), (k3, .boolean), (k4, .int), (k5, .int), (k6, .int)]) [0, 1, 2, 3, 4, 5, 6] rfl).app hK1_3
  have hK_3 : va_K (dC, dI) vwCl [(k0, .int), (k1, .int), (k2, .boolean), (k3, .boolean), (k4, .int), (k5, .int), (k6, .int)] s := hK_3
  have hP_3 : va_P (dC, dI) vwCl [(h1, .inl (k0, 256, .inl (fun _ => 0))), (h2, .inl (k1, 256, .inl (fun _ => 0))), (h3, .inl (k2, 256, .inl (fun _ => 0))), (h4, .inl (k3, 256, .inl (fun _ => 0))), (h5, .inl (k4, 256, .inl (upd (fun _ => 0) 0 5))), (h6, .inl (k5, 256, .inl (upd (fun _ => 0) 0 (-1)))), (h7, .inl (k6, 256, .inl (upd (fun _ => 0) 0 1))), (h0, .inr (13, [.int 0, .int 1, .int 0, .int 0, .ref h5, .ref h6, .ref h7, .ref h8, .ref h9, .ref h10, .ref h11, .ref h12, .ref h13, .ref h1, .ref h2, .ref h3, .ref h4, .ref h14, .ref h15, .ref h16]))] H_3 := hP_3
  have hD_3 : va_D A [(h1, .inl (k0, 256, .inl (fun _ => 0))), (h2, .inl (k1, 256, .inl (fun _ => 0))), (h3, .inl (k2, 256, .inl (fun _ => 0))), (h4, .inl (k3, 256, .inl (fun _ => 0))), (h5, .inl (k4, 256, .inl (upd (fun _ => 0) 0 5))), (h6, .inl (k5, 256, .inl (upd (fun _ => 0) 0 (-1)))), (h7, .inl (k6, 256, .inl (upd (fun _ => 0) 0 1))), (h0, .inr (13, [.int 0, .int 1, .int 0, .int 0, .ref h5, .ref h6, .ref h7, .ref h8, .ref h9, .ref h10, .ref h11, .ref h12, .ref h13, .ref h1, .ref h2, .ref h3, .ref h4, .ref h14, .ref h15, .ref h16]))] := hD_3
  clear hP_2 hD_2 hS_2 hK_2 hPc_3 hDc_3 hKc_3 hFc_3 hP1_3 hK1_3 hD1_3 hk_3 hz_3
  refine lv_if_ne (tgt := 57) hx hb dX10_measure_25 (by decide) (fun c_ => absurd (by decide) c_) (fun _ => ?_)
  refine lv_aload_n hx hb dX10_measure_28 rfl (lv_at hl_1 1 rfl) ?_
  refine lv_aload_n hx hb dX10_measure_29 rfl (lv_at hl_1 1 rfl) ?_
  refine va_get (D := (dC, dI)) (ci := 13) (v := .ref h6) (C := RX10) (T := TX10) (N := 20) hx hb ht inX10 hown hK_3 hP_3 7 rfl rfl 5 (by decide) (ht _ tw_328) (fun _ h9 => h9) rfl dX10_measure_30 ?_
  refine lv_iload_n hx hb dX10_measure_33 rfl (lv_at hl_1 0 rfl) ?_
  refine va_iald hx hb hK_3 hP_3 5 5 rfl rfl (i := 0) (vpi (by decide)) dX10_measure_34 ?_
  refine W.eq (g2 := F0 m 35 ls_1 [.int (-1), .ref h0, .int 0, .ref h4]) rfl ?_
  have hPc_4 := hP_3.sub (ws' := [(h0, .inr (13, [.int 0, .int 1, .int 0, .int 0, .ref h5, .ref h6, .ref h7, .ref h8, .ref h9, .ref h10, .ref h11, .ref h12, .ref h13, .ref h1, .ref h2, .ref h3, .ref h4, .ref h14, .ref h15, .ref h16]))]) [7] rfl
  have hDc_4 := hD_3.sub (ws' := [(h0, .inr (13, [.int 0, .int 1, .int 0, .int 0, .ref h5, .ref h6, .ref h7, .ref h8, .ref h9, .ref h10, .ref h11, .ref h12, .ref h13, .ref h1, .ref h2, .ref h3, .ref h4, .ref h14, .ref h15, .ref h16]))]) [7] (by decide) rfl
  have hKc_4 := hK_3.sub (tys' := []) [] rfl
  have hFc_4 := va_free (wc := [(h0, .inr (13, [.int 0, .int 1, .int 0, .int 0, .ref h5, .ref h6, .ref h7, .ref h8, .ref h9, .ref h10, .ref h11, .ref h12, .ref h13, .ref h1, .ref h2, .ref h3, .ref h4, .ref h14, .ref h15, .ref h16]))]) hD_3 hS_3 hA [7] rfl
  refine va_calli (va_runV (As := [.int (-1)]) (rest := [.int 0, .ref h4]) ⟨hx, hb, hml, hown, ht⟩ (mt_X10_has l dC dI h0 h5 h6 h7 h8 h9 h10 h11 h12 h13 h1 h2 h3 h4 h14 h15 h16 H_3.size) (cwV 1 ht (goodV tw_1069 tw_1070 tw_1071 tw_240 gw_X10_has) rfl rfl rfl (by decide +kernel) ⟨Nat.le_of_ble_eq_true rfl, Nat.le_of_ble_eq_true rfl⟩) ⟨fun a U g mk q => by obtain ⟨q0, q1, qP, qK, qD⟩ := q; exact ⟨q0, q1, qP, va_K.moved (u := U) (U := U.calling g mk a) (Vm.Alike.refl U.vm) qK, qD⟩, va_recv hKc_4 hPc_4 (ci := 13) (q0 := 0) rfl rfl, fun U hU hW => ⟨rfl, by rw [hU], by rw [hU]; exact hPc_4, va_K.moved hW.alike hKc_4, hDc_4.weaken (fun _ _ _ _ => trivial)⟩⟩ rfl rfl hl_1.1 rfl (lv_room (Nat.le_of_ble_eq_true rfl)) dX10_measure_35 ⟨Nat.le_of_ble_eq_true rfl, Nat.le_of_ble_eq_true rfl⟩) hS_3 (fun q _ h => hFc_4 q h) hFc_4 (fun r_4 u_4 t_4 H_4 locs_4 ht_4 hvm_4 hw_4 hB_4 hz_4 hk_4 hS_4 => ?_)
  obtain ⟨rfl, rfl⟩ := hw_4
  obtain ⟨hP1_4, hK1_4, hD1_4⟩ := hB_4
  rw [ht_4] at hP1_4
  have hK1_4 := va_K.moved hvm_4.symm hK1_4
  obtain ⟨hP_4, hD_4⟩ := va_join (wr := [(h1, .inl (k0, 256, .inl (fun _ => 0))), (h2, .inl (k1, 256, .inl (fun _ => 0))), (h3, .inl (k2, 256, .inl (fun _ => 0))), (h4, .inl (k3, 256, .inl (fun _ => 0))), (h5, .inl (k4, 256, .inl (upd (fun _ => 0) 0 5))), (h6, .inl (k5, 256, .inl (upd (fun _ => 0) 0 (-1)))), (h7, .inl (k6, 256, .inl (upd (fun _ => 0) 0 1)))]) (w1 := [(h0, .inr (13, [.int 0, .int 1, .int 0, .int 0, .ref h5, .ref h6, .ref h7, .ref h8, .ref h9, .ref h10, .ref h11, .ref h12, .ref h13, .ref h1, .ref h2, .ref h3, .ref h4, .ref h14, .ref h15, .ref h16]))]) hP_3 hD_3 [7] [0, 1, 2, 3, 4, 5, 6] rfl rfl (by decide) (by decide) hk_4 hFc_4 hP1_4 hD1_4
  have hK_4 := (hK_3.sub (tys' := [(k0, .int), (k1, .int), (k2, .boolean), (k3, .boolean), (k4, .int), (k5, .int), (k6, .int)]) [0, 1, 2, 3, 4, 5, 6] rfl).app hK1_4
  have hK_4 : va_K (dC, dI) vwCl [(k0, .int), (k1, .int), (k2, .boolean), (k3, .boolean), (k4, .int), (k5, .int), (k6, .int)] s := hK_4
  have hP_4 : va_P (dC, dI) vwCl [(h1, .inl (k0, 256, .inl (fun _ => 0))), (h2, .inl (k1, 256, .inl (fun _ => 0))), (h3, .inl (k2, 256, .inl (fun _ => 0))), (h4, .inl (k3, 256, .inl (fun _ => 0))), (h5, .inl (k4, 256, .inl (upd (fun _ => 0) 0 5))), (h6, .inl (k5, 256, .inl (upd (fun _ => 0) 0 (-1)))), (h7, .inl (k6, 256, .inl (upd (fun _ => 0) 0 1))), (h0, .inr (13, [.int 0, .int 1, .int 0, .int 0, .ref h5, .ref h6, .ref h7, .ref h8, .ref h9, .ref h10, .ref h11, .ref h12, .ref h13, .ref h1, .ref h2, .ref h3, .ref h4, .ref h14, .ref h15, .ref h16]))] H_4 := hP_4
  have hD_4 : va_D A [(h1, .inl (k0, 256, .inl (fun _ => 0))), (h2, .inl (k1, 256, .inl (fun _ => 0))), (h3, .inl (k2, 256, .inl (fun _ => 0))), (h4, .inl (k3, 256, .inl (fun _ => 0))), (h5, .inl (k4, 256, .inl (upd (fun _ => 0) 0 5))), (h6, .inl (k5, 256, .inl (upd (fun _ => 0) 0 (-1)))), (h7, .inl (k6, 256, .inl (upd (fun _ => 0) 0 1))), (h0, .inr (13, [.int 0, .int 1, .int 0, .int 0, .ref h5, .ref h6, .ref h7, .ref h8, .ref h9, .ref h10, .ref h11, .ref h12, .ref h13, .ref h1, .ref h2, .ref h3, .ref h4, .ref h14, .ref h15, .ref h16]))] := hD_4
  clear hP_3 hD_3 hS_3 hK_3 hPc_4 hDc_4 hKc_4 hFc_4 hP1_4 hK1_4 hD1_4 hk_4 hz_4
  refine lv_if_eq (tgt := 61) hx hb dX10_measure_38 (by decide) (fun _ => ?_) (fun c_ => absurd (by decide) c_)
  refine lv_iconst (v := 0) hx hb dX10_measure_61 (by decide) ?_
  refine va_zast hx hb hK_4 hP_4 hD_4 hS_4 3 3 rfl rfl (i := 0) (vpi (by decide)) dX10_measure_62 (fun H_5 locs_5 hP_5 hD_5 hS_5 => ?_)
  have hP_5 : va_P (dC, dI) vwCl [(h1, .inl (k0, 256, .inl (fun _ => 0))), (h2, .inl (k1, 256, .inl (fun _ => 0))), (h3, .inl (k2, 256, .inl (fun _ => 0))), (h4, .inl (k3, 256, .inl (upd (fun _ => 0) 0 0))), (h5, .inl (k4, 256, .inl (upd (fun _ => 0) 0 5))), (h6, .inl (k5, 256, .inl (upd (fun _ => 0) 0 (-1)))), (h7, .inl (k6, 256, .inl (upd (fun _ => 0) 0 1))), (h0, .inr (13, [.int 0, .int 1, .int 0, .int 0, .ref h5, .ref h6, .ref h7, .ref h8, .ref h9, .ref h10, .ref h11, .ref h12, .ref h13, .ref h1, .ref h2, .ref h3, .ref h4, .ref h14, .ref h15, .ref h16]))] H_5 := hP_5
  have hD_5 : va_D A [(h1, .inl (k0, 256, .inl (fun _ => 0))), (h2, .inl (k1, 256, .inl (fun _ => 0))), (h3, .inl (k2, 256, .inl (fun _ => 0))), (h4, .inl (k3, 256, .inl (upd (fun _ => 0) 0 0))), (h5, .inl (k4, 256, .inl (upd (fun _ => 0) 0 5))), (h6, .inl (k5, 256, .inl (upd (fun _ => 0) 0 (-1)))), (h7, .inl (k6, 256, .inl (upd (fun _ => 0) 0 1))), (h0, .inr (13, [.int 0, .int 1, .int 0, .int 0, .ref h5, .ref h6, .ref h7, .ref h8, .ref h9, .ref h10, .ref h11, .ref h12, .ref h13, .ref h1, .ref h2, .ref h3, .ref h4, .ref h14, .ref h15, .ref h16]))] := hD_5
  clear hP_4 hD_4 hS_4
  refine lv_iinc (v := 1) (lv' := [(1, .int 1), (0, .ref h0)]) hx hb dX10_measure_63 hl_1 (k := 0) rfl (by decide) (by decide) rfl (fun ls_6 hl_6 => ?_)
  clear hl_1
  refine lv_goto (tgt := 2) hx hb dX10_measure_66 (by decide) ?_
  refine lv_aload_n hx hb dX10_measure_2 rfl (lv_at hl_6 1 rfl) ?_
  refine lv_iload_n hx hb dX10_measure_3 rfl (lv_at hl_6 0 rfl) ?_
  have hPc_7 := hP_5.sub (ws' := [(h0, .inr (13, [.int 0, .int 1, .int 0, .int 0, .ref h5, .ref h6, .ref h7, .ref h8, .ref h9, .ref h10, .ref h11, .ref h12, .ref h13, .ref h1, .ref h2, .ref h3, .ref h4, .ref h14, .ref h15, .ref h16]))]) [7] rfl
  have hDc_7 := hD_5.sub (ws' := [(h0, .inr (13, [.int 0, .int 1, .int 0, .int 0, .ref h5, .ref h6, .ref h7, .ref h8, .ref h9, .ref h10, .ref h11, .ref h12, .ref h13, .ref h1, .ref h2, .ref h3, .ref h4, .ref h14, .ref h15, .ref h16]))]) [7] (by decide) rfl
  have hKc_7 := hK_4.sub (tys' := []) [] rfl
  have hFc_7 := va_free (wc := [(h0, .inr (13, [.int 0, .int 1, .int 0, .int 0, .ref h5, .ref h6, .ref h7, .ref h8, .ref h9, .ref h10, .ref h11, .ref h12, .ref h13, .ref h1, .ref h2, .ref h3, .ref h4, .ref h14, .ref h15, .ref h16]))]) hD_5 hS_5 hA [7] rfl
  refine va_calli (va_runV (As := [.int 1]) (rest := []) ⟨hx, hb, hml, hown, ht⟩ (mt_X10_has_v3 l dC dI h0 h5 h6 h7 h8 h9 h10 h11 h12 h13 h1 h2 h3 h4 h14 h15 h16 H_5.size) (cwV 1 ht (goodV tw_1069 tw_1070 tw_1071 tw_240 gw_X10_has) rfl rfl rfl (by decide +kernel) ⟨Nat.le_of_ble_eq_true rfl, Nat.le_of_ble_eq_true rfl⟩) ⟨fun a U g mk q => by obtain ⟨q0, q1, qP, qK, qD⟩ := q; exact ⟨q0, q1, qP, va_K.moved (u := U) (U := U.calling g mk a) (Vm.Alike.refl U.vm) qK, qD⟩, va_recv hKc_7 hPc_7 (ci := 13) (q0 := 0) rfl rfl, fun U hU hW => ⟨rfl, by rw [hU], by rw [hU]; exact hPc_7, va_K.moved hW.alike hKc_7, hDc_7.weaken (fun _ _ _ _ => trivial)⟩⟩ rfl rfl hl_6.1 rfl (lv_room (Nat.le_of_ble_eq_true rfl)) dX10_measure_4 ⟨Nat.le_of_ble_eq_true rfl, Nat.le_of_ble_eq_true rfl⟩) hS_5 (fun q _ h => hFc_7 q h) hFc_7 (fun r_7 u_7 t_7 H_7 locs_7 ht_7 hvm_7 hw_7 hB_7 hz_7 hk_7 hS_7 => ?_)
  obtain ⟨rfl, rfl⟩ := hw_7
  obtain ⟨hP1_7, hK1_7, hD1_7⟩ := hB_7
  rw [ht_7] at hP1_7
  have hK1_7 := va_K.moved hvm_7.symm hK1_7
  obtain ⟨hP_7, hD_7⟩ := va_join (wr := [(h1, .inl (k0, 256, .inl (fun _ => 0))), (h2, .inl (k1, 256, .inl (fun _ => 0))), (h3, .inl (k2, 256, .inl (fun _ => 0))), (h4, .inl (k3, 256, .inl (upd (fun _ => 0) 0 0))), (h5, .inl (k4, 256, .inl (upd (fun _ => 0) 0 5))), (h6, .inl (k5, 256, .inl (upd (fun _ => 0) 0 (-1)))), (h7, .inl (k6, 256, .inl (upd (fun _ => 0) 0 1)))]) (w1 := [(h0, .inr (13, [.int 0, .int 1, .int 0, .int 0, .ref h5, .ref h6, .ref h7, .ref h8, .ref h9, .ref h10, .ref h11, .ref h12, .ref h13, .ref h1, .ref h2, .ref h3, .ref h4, .ref h14, .ref h15, .ref h16]))]) hP_5 hD_5 [7] [0, 1, 2, 3, 4, 5, 6] rfl rfl (by decide) (by decide) hk_7 hFc_7 hP1_7 hD1_7
  have hK_7 := (hK_4.sub (tys' := [(k0, .int), (k1, .int), (k2, .boolean), (k3, .boolean), (k4, .int), (k5, .int), (k6, .int)]) [0, 1, 2, 3, 4, 5, 6] rfl).app hK1_7
  have hK_7 : va_K (dC, dI) vwCl [(k0, .int), (k1, .int), (k2, .boolean), (k3, .boolean), (k4, .int), (k5, .int), (k6, .int)] s := hK_7
  have hP_7 : va_P (dC, dI) vwCl [(h1, .inl (k0, 256, .inl (fun _ => 0))), (h2, .inl (k1, 256, .inl (fun _ => 0))), (h3, .inl (k2, 256, .inl (fun _ => 0))), (h4, .inl (k3, 256, .inl (upd (fun _ => 0) 0 0))), (h5, .inl (k4, 256, .inl (upd (fun _ => 0) 0 5))), (h6, .inl (k5, 256, .inl (upd (fun _ => 0) 0 (-1)))), (h7, .inl (k6, 256, .inl (upd (fun _ => 0) 0 1))), (h0, .inr (13, [.int 0, .int 1, .int 0, .int 0, .ref h5, .ref h6, .ref h7, .ref h8, .ref h9, .ref h10, .ref h11, .ref h12, .ref h13, .ref h1, .ref h2, .ref h3, .ref h4, .ref h14, .ref h15, .ref h16]))] H_7 := hP_7
  have hD_7 : va_D A [(h1, .inl (k0, 256, .inl (fun _ => 0))), (h2, .inl (k1, 256, .inl (fun _ => 0))), (h3, .inl (k2, 256, .inl (fun _ => 0))), (h4, .inl (k3, 256, .inl (upd (fun _ => 0) 0 0))), (h5, .inl (k4, 256, .inl (upd (fun _ => 0) 0 5))), (h6, .inl (k5, 256, .inl (upd (fun _ => 0) 0 (-1)))), (h7, .inl (k6, 256, .inl (upd (fun _ => 0) 0 1))), (h0, .inr (13, [.int 0, .int 1, .int 0, .int 0, .ref h5, .ref h6, .ref h7, .ref h8, .ref h9, .ref h10, .ref h11, .ref h12, .ref h13, .ref h1, .ref h2, .ref h3, .ref h4, .ref h14, .ref h15, .ref h16]))] := hD_7
  clear hP_5 hD_5 hS_5 hK_4 hPc_7 hDc_7 hKc_7 hFc_7 hP1_7 hK1_7 hD1_7 hk_7 hz_7
  refine lv_if_eq (tgt := 69) hx hb dX10_measure_7 (by decide) (fun _ => ?_) (fun c_ => absurd (by decide) c_)
  refine lv_aload_n hx hb dX10_measure_69 rfl (lv_at hl_6 1 rfl) ?_
  refine va_get (D := (dC, dI)) (ci := 13) (v := .int 1) (C := RX10) (T := TX10) (N := 20) hx hb ht inX10 hown hK_7 hP_7 7 rfl rfl 1 (by decide) (ht _ tw_319) (fun _ h9 => h9) rfl dX10_measure_70 ?_
  refine lv_iconst (v := 1) hx hb dX10_measure_73 (by decide) ?_
  refine lv_isub hx hb dX10_measure_74 ?_
  refine lv_topi (fun x_8 ex_8 => ?_)
  obtain rfl : x_8 = 0 := ex_8.trans (by decide)
  refine lv_istore_n (lv' := [(1, .int 0), (0, .ref h0)]) hx hb dX10_measure_75 rfl hl_6 (by decide) rfl (fun ls_9 hl_9 => ?_)
  clear hl_6
  refine lv_aload_n hx hb dX10_measure_76 rfl (lv_at hl_9 1 rfl) ?_
  refine lv_iload_n hx hb dX10_measure_77 rfl (lv_at hl_9 0 rfl) ?_
  have hPc_10 := hP_7.sub (ws' := [(h0, .inr (13, [.int 0, .int 1, .int 0, .int 0, .ref h5, .ref h6, .ref h7, .ref h8, .ref h9, .ref h10, .ref h11, .ref h12, .ref h13, .ref h1, .ref h2, .ref h3, .ref h4, .ref h14, .ref h15, .ref h16]))]) [7] rfl
  have hDc_10 := hD_7.sub (ws' := [(h0, .inr (13, [.int 0, .int 1, .int 0, .int 0, .ref h5, .ref h6, .ref h7, .ref h8, .ref h9, .ref h10, .ref h11, .ref h12, .ref h13, .ref h1, .ref h2, .ref h3, .ref h4, .ref h14, .ref h15, .ref h16]))]) [7] (by decide) rfl
  have hKc_10 := hK_7.sub (tys' := []) [] rfl
  have hFc_10 := va_free (wc := [(h0, .inr (13, [.int 0, .int 1, .int 0, .int 0, .ref h5, .ref h6, .ref h7, .ref h8, .ref h9, .ref h10, .ref h11, .ref h12, .ref h13, .ref h1, .ref h2, .ref h3, .ref h4, .ref h14, .ref h15, .ref h16]))]) hD_7 hS_7 hA [7] rfl
  refine va_calli (va_runV (As := [.int 0]) (rest := []) ⟨hx, hb, hml, hown, ht⟩ (mt_X10_has_v2 l dC dI h0 h5 h6 h7 h8 h9 h10 h11 h12 h13 h1 h2 h3 h4 h14 h15 h16 H_7.size) (cwV 1 ht (goodV tw_1069 tw_1070 tw_1071 tw_240 gw_X10_has) rfl rfl rfl (by decide +kernel) ⟨Nat.le_of_ble_eq_true rfl, Nat.le_of_ble_eq_true rfl⟩) ⟨fun a U g mk q => by obtain ⟨q0, q1, qP, qK, qD⟩ := q; exact ⟨q0, q1, qP, va_K.moved (u := U) (U := U.calling g mk a) (Vm.Alike.refl U.vm) qK, qD⟩, va_recv hKc_10 hPc_10 (ci := 13) (q0 := 0) rfl rfl, fun U hU hW => ⟨rfl, by rw [hU], by rw [hU]; exact hPc_10, va_K.moved hW.alike hKc_10, hDc_10.weaken (fun _ _ _ _ => trivial)⟩⟩ rfl rfl hl_9.1 rfl (lv_room (Nat.le_of_ble_eq_true rfl)) dX10_measure_78 ⟨Nat.le_of_ble_eq_true rfl, Nat.le_of_ble_eq_true rfl⟩) hS_7 (fun q _ h => hFc_10 q h) hFc_10 (fun r_10 u_10 t_10 H_10 locs_10 ht_10 hvm_10 hw_10 hB_10 hz_10 hk_10 hS_10 => ?_)
  obtain ⟨rfl, rfl⟩ := hw_10
  obtain ⟨hP1_10, hK1_10, hD1_10⟩ := hB_10
  rw [ht_10] at hP1_10
  have hK1_10 := va_K.moved hvm_10.symm hK1_10
  obtain ⟨hP_10, hD_10⟩ := va_join (wr := [(h1, .inl (k0, 256, .inl (fun _ => 0))), (h2, .inl (k1, 256, .inl (fun _ => 0))), (h3, .inl (k2, 256, .inl (fun _ => 0))), (h4, .inl (k3, 256, .inl (upd (fun _ => 0) 0 0))), (h5, .inl (k4, 256, .inl (upd (fun _ => 0) 0 5))), (h6, .inl (k5, 256, .inl (upd (fun _ => 0) 0 (-1)))), (h7, .inl (k6, 256, .inl (upd (fun _ => 0) 0 1)))]) (w1 := [(h0, .inr (13, [.int 0, .int 1, .int 0, .int 0, .ref h5, .ref h6, .ref h7, .ref h8, .ref h9, .ref h10, .ref h11, .ref h12, .ref h13, .ref h1, .ref h2, .ref h3, .ref h4, .ref h14, .ref h15, .ref h16]))]) hP_7 hD_7 [7] [0, 1, 2, 3, 4, 5, 6] rfl rfl (by decide) (by decide) hk_10 hFc_10 hP1_10 hD1_10
  have hK_10 := (hK_7.sub (tys' := [(k0, .int), (k1, .int), (k2, .boolean), (k3, .boolean), (k4, .int), (k5, .int), (k6, .int)]) [0, 1, 2, 3, 4, 5, 6] rfl).app hK1_10
  have hK_10 : va_K (dC, dI) vwCl [(k0, .int), (k1, .int), (k2, .boolean), (k3, .boolean), (k4, .int), (k5, .int), (k6, .int)] s := hK_10
  have hP_10 : va_P (dC, dI) vwCl [(h1, .inl (k0, 256, .inl (fun _ => 0))), (h2, .inl (k1, 256, .inl (fun _ => 0))), (h3, .inl (k2, 256, .inl (fun _ => 0))), (h4, .inl (k3, 256, .inl (upd (fun _ => 0) 0 0))), (h5, .inl (k4, 256, .inl (upd (fun _ => 0) 0 5))), (h6, .inl (k5, 256, .inl (upd (fun _ => 0) 0 (-1)))), (h7, .inl (k6, 256, .inl (upd (fun _ => 0) 0 1))), (h0, .inr (13, [.int 0, .int 1, .int 0, .int 0, .ref h5, .ref h6, .ref h7, .ref h8, .ref h9, .ref h10, .ref h11, .ref h12, .ref h13, .ref h1, .ref h2, .ref h3, .ref h4, .ref h14, .ref h15, .ref h16]))] H_10 := hP_10
  have hD_10 : va_D A [(h1, .inl (k0, 256, .inl (fun _ => 0))), (h2, .inl (k1, 256, .inl (fun _ => 0))), (h3, .inl (k2, 256, .inl (fun _ => 0))), (h4, .inl (k3, 256, .inl (upd (fun _ => 0) 0 0))), (h5, .inl (k4, 256, .inl (upd (fun _ => 0) 0 5))), (h6, .inl (k5, 256, .inl (upd (fun _ => 0) 0 (-1)))), (h7, .inl (k6, 256, .inl (upd (fun _ => 0) 0 1))), (h0, .inr (13, [.int 0, .int 1, .int 0, .int 0, .ref h5, .ref h6, .ref h7, .ref h8, .ref h9, .ref h10, .ref h11, .ref h12, .ref h13, .ref h1, .ref h2, .ref h3, .ref h4, .ref h14, .ref h15, .ref h16]))] := hD_10
  clear hP_7 hD_7 hS_7 hK_7 hPc_10 hDc_10 hKc_10 hFc_10 hP1_10 hK1_10 hD1_10 hk_10 hz_10
  refine lv_if_eq (tgt := 95) hx hb dX10_measure_81 (by decide) (fun c_ => absurd c_ (by decide)) (fun _ => ?_)
  refine lv_aload_n hx hb dX10_measure_84 rfl (lv_at hl_9 1 rfl) ?_
  refine lv_iload_n hx hb dX10_measure_85 rfl (lv_at hl_9 0 rfl) ?_
  have hPc_11 := hP_10.sub (ws' := [(h1, .inl (k0, 256, .inl (fun _ => 0))), (h2, .inl (k1, 256, .inl (fun _ => 0))), (h3, .inl (k2, 256, .inl (fun _ => 0))), (h5, .inl (k4, 256, .inl (upd (fun _ => 0) 0 5))), (h7, .inl (k6, 256, .inl (upd (fun _ => 0) 0 1))), (h0, .inr (13, [.int 0, .int 1, .int 0, .int 0, .ref h5, .ref h6, .ref h7, .ref h8, .ref h9, .ref h10, .ref h11, .ref h12, .ref h13, .ref h1, .ref h2, .ref h3, .ref h4, .ref h14, .ref h15, .ref h16]))]) [0, 1, 2, 4, 6, 7] rfl
  have hDc_11 := hD_10.sub (ws' := [(h1, .inl (k0, 256, .inl (fun _ => 0))), (h2, .inl (k1, 256, .inl (fun _ => 0))), (h3, .inl (k2, 256, .inl (fun _ => 0))), (h5, .inl (k4, 256, .inl (upd (fun _ => 0) 0 5))), (h7, .inl (k6, 256, .inl (upd (fun _ => 0) 0 1))), (h0, .inr (13, [.int 0, .int 1, .int 0, .int 0, .ref h5, .ref h6, .ref h7, .ref h8, .ref h9, .ref h10, .ref h11, .ref h12, .ref h13, .ref h1, .ref h2, .ref h3, .ref h4, .ref h14, .ref h15, .ref h16]))]) [0, 1, 2, 4, 6, 7] (by decide) rfl
  have hKc_11 := hK_10.sub (tys' := [(k0, .int), (k1, .int), (k2, .boolean), (k4, .int), (k6, .int)]) [0, 1, 2, 4, 6] rfl
  have hFc_11 := va_free (wc := [(h1, .inl (k0, 256, .inl (fun _ => 0))), (h2, .inl (k1, 256, .inl (fun _ => 0))), (h3, .inl (k2, 256, .inl (fun _ => 0))), (h5, .inl (k4, 256, .inl (upd (fun _ => 0) 0 5))), (h7, .inl (k6, 256, .inl (upd (fun _ => 0) 0 1))), (h0, .inr (13, [.int 0, .int 1, .int 0, .int 0, .ref h5, .ref h6, .ref h7, .ref h8, .ref h9, .ref h10, .ref h11, .ref h12, .ref h13, .ref h1, .ref h2, .ref h3, .ref h4, .ref h14, .ref h15, .ref h16]))]) hD_10 hS_10 hA [0, 1, 2, 4, 6, 7] rfl
  refine va_callv (va_runV (As := [.int 0]) (rest := []) ⟨hx, hb, hml, hown, ht⟩ (mt_X10_measureNode l dC dI h0 h1 h2 h3 h5 h7 h6 h8 h9 h10 h11 h12 h13 h4 h14 h15 h16 k0 k1 k2 k4 k6 H_10.size) (cwV 1 ht (goodV tw_1085 tw_1087 tw_34 tw_240 gw_X10_measureNode) rfl rfl rfl (by decide +kernel) ⟨Nat.le_of_ble_eq_true rfl, Nat.le_of_ble_eq_true rfl⟩) ⟨fun a U g mk q => by obtain ⟨q0, q1, qP, qK, qD⟩ := q; exact ⟨q0, q1, qP, va_K.moved (u := U) (U := U.calling g mk a) (Vm.Alike.refl U.vm) qK, qD⟩, va_recv hKc_11 hPc_11 (ci := 13) (q0 := 5) rfl rfl, fun U hU hW => ⟨rfl, by rw [hU], by rw [hU]; exact hPc_11, va_K.moved hW.alike hKc_11, hDc_11.weaken (fun _ _ _ _ => trivial)⟩⟩ rfl rfl hl_9.1 rfl (lv_room (Nat.le_of_ble_eq_true rfl)) dX10_measure_86 ⟨Nat.le_of_ble_eq_true rfl, Nat.le_of_ble_eq_true rfl⟩) hS_10 (fun q _ h => hFc_11 q h) hFc_11 (fun u_11 t_11 H_11 locs_11 ht_11 hvm_11 hw_11 hB_11 hz_11 hk_11 hS_11 => ?_)
  obtain rfl := hw_11
  obtain ⟨hP1_11, hK1_11, hD1_11⟩ := hB_11
  rw [ht_11] at hP1_11
  have hK1_11 := va_K.moved hvm_11.symm hK1_11
  obtain ⟨hP_11, hD_11⟩ := va_join (wr := [(h4, .inl (k3, 256, .inl (upd (fun _ => 0) 0 0))), (h6, .inl (k5, 256, .inl (upd (fun _ => 0) 0 (-1))))]) (w1 := [(h1, .inl (k0, 256, .inl (upd (fun _ => 0) 0 1))), (h2, .inl (k1, 256, .inl (upd (fun _ => 0) 0 0))), (h3, .inl (k2, 256, .inl (upd (fun _ => 0) 0 1))), (h7, .inl (k6, 256, .inl (upd (fun _ => 0) 0 1))), (h5, .inl (k4, 256, .inl (upd (fun _ => 0) 0 5))), (h0, .inr (13, [.int 0, .int 1, .int 0, .int 0, .ref h5, .ref h6, .ref h7, .ref h8, .ref h9, .ref h10, .ref h11, .ref h12, .ref h13, .ref h1, .ref h2, .ref h3, .ref h4, .ref h14, .ref h15, .ref h16]))]) hP_10 hD_10 [0, 1, 2, 4, 6, 7] [3, 5] rfl rfl (by decide) (by decide) hk_11 hFc_11 hP1_11 hD1_11
  have hK_11 := (hK_10.sub (tys' := [(k3, .boolean), (k5, .int)]) [3, 5] rfl).app hK1_11
  have hK_11 : va_K (dC, dI) vwCl [(k3, .boolean), (k5, .int), (k0, .int), (k1, .int), (k2, .boolean), (k6, .int), (k4, .int)] s := hK_11
  have hP_11 : va_P (dC, dI) vwCl [(h4, .inl (k3, 256, .inl (upd (fun _ => 0) 0 0))), (h6, .inl (k5, 256, .inl (upd (fun _ => 0) 0 (-1)))), (h1, .inl (k0, 256, .inl (upd (fun _ => 0) 0 1))), (h2, .inl (k1, 256, .inl (upd (fun _ => 0) 0 0))), (h3, .inl (k2, 256, .inl (upd (fun _ => 0) 0 1))), (h7, .inl (k6, 256, .inl (upd (fun _ => 0) 0 1))), (h5, .inl (k4, 256, .inl (upd (fun _ => 0) 0 5))), (h0, .inr (13, [.int 0, .int 1, .int 0, .int 0, .ref h5, .ref h6, .ref h7, .ref h8, .ref h9, .ref h10, .ref h11, .ref h12, .ref h13, .ref h1, .ref h2, .ref h3, .ref h4, .ref h14, .ref h15, .ref h16]))] H_11 := hP_11
  have hD_11 : va_D A [(h4, .inl (k3, 256, .inl (upd (fun _ => 0) 0 0))), (h6, .inl (k5, 256, .inl (upd (fun _ => 0) 0 (-1)))), (h1, .inl (k0, 256, .inl (upd (fun _ => 0) 0 1))), (h2, .inl (k1, 256, .inl (upd (fun _ => 0) 0 0))), (h3, .inl (k2, 256, .inl (upd (fun _ => 0) 0 1))), (h7, .inl (k6, 256, .inl (upd (fun _ => 0) 0 1))), (h5, .inl (k4, 256, .inl (upd (fun _ => 0) 0 5))), (h0, .inr (13, [.int 0, .int 1, .int 0, .int 0, .ref h5, .ref h6, .ref h7, .ref h8, .ref h9, .ref h10, .ref h11, .ref h12, .ref h13, .ref h1, .ref h2, .ref h3, .ref h4, .ref h14, .ref h15, .ref h16]))] := hD_11
  clear hP_10 hD_10 hS_10 hK_10 hPc_11 hDc_11 hKc_11 hFc_11 hP1_11 hK1_11 hD1_11 hk_11 hz_11
  refine lv_iinc (v := (-1)) (lv' := [(1, .int (-1)), (0, .ref h0)]) hx hb dX10_measure_89 hl_9 (k := 0) rfl (by decide) (by decide) rfl (fun ls_12 hl_12 => ?_)
  clear hl_9
  refine lv_goto (tgt := 76) hx hb dX10_measure_92 (by decide) ?_
  refine lv_aload_n hx hb dX10_measure_76 rfl (lv_at hl_12 1 rfl) ?_
  refine lv_iload_n hx hb dX10_measure_77 rfl (lv_at hl_12 0 rfl) ?_
  have hPc_13 := hP_11.sub (ws' := [(h0, .inr (13, [.int 0, .int 1, .int 0, .int 0, .ref h5, .ref h6, .ref h7, .ref h8, .ref h9, .ref h10, .ref h11, .ref h12, .ref h13, .ref h1, .ref h2, .ref h3, .ref h4, .ref h14, .ref h15, .ref h16]))]) [7] rfl
  have hDc_13 := hD_11.sub (ws' := [(h0, .inr (13, [.int 0, .int 1, .int 0, .int 0, .ref h5, .ref h6, .ref h7, .ref h8, .ref h9, .ref h10, .ref h11, .ref h12, .ref h13, .ref h1, .ref h2, .ref h3, .ref h4, .ref h14, .ref h15, .ref h16]))]) [7] (by decide) rfl
  have hKc_13 := hK_11.sub (tys' := []) [] rfl
  have hFc_13 := va_free (wc := [(h0, .inr (13, [.int 0, .int 1, .int 0, .int 0, .ref h5, .ref h6, .ref h7, .ref h8, .ref h9, .ref h10, .ref h11, .ref h12, .ref h13, .ref h1, .ref h2, .ref h3, .ref h4, .ref h14, .ref h15, .ref h16]))]) hD_11 hS_11 hA [7] rfl
  refine va_calli (va_runV (As := [.int (-1)]) (rest := []) ⟨hx, hb, hml, hown, ht⟩ (mt_X10_has l dC dI h0 h5 h6 h7 h8 h9 h10 h11 h12 h13 h1 h2 h3 h4 h14 h15 h16 H_11.size) (cwV 1 ht (goodV tw_1069 tw_1070 tw_1071 tw_240 gw_X10_has) rfl rfl rfl (by decide +kernel) ⟨Nat.le_of_ble_eq_true rfl, Nat.le_of_ble_eq_true rfl⟩) ⟨fun a U g mk q => by obtain ⟨q0, q1, qP, qK, qD⟩ := q; exact ⟨q0, q1, qP, va_K.moved (u := U) (U := U.calling g mk a) (Vm.Alike.refl U.vm) qK, qD⟩, va_recv hKc_13 hPc_13 (ci := 13) (q0 := 0) rfl rfl, fun U hU hW => ⟨rfl, by rw [hU], by rw [hU]; exact hPc_13, va_K.moved hW.alike hKc_13, hDc_13.weaken (fun _ _ _ _ => trivial)⟩⟩ rfl rfl hl_12.1 rfl (lv_room (Nat.le_of_ble_eq_true rfl)) dX10_measure_78 ⟨Nat.le_of_ble_eq_true rfl, Nat.le_of_ble_eq_true rfl⟩) hS_11 (fun q _ h => hFc_13 q h) hFc_13 (fun r_13 u_13 t_13 H_13 locs_13 ht_13 hvm_13 hw_13 hB_13 hz_13 hk_13 hS_13 => ?_)
  obtain ⟨rfl, rfl⟩ := hw_13
  obtain ⟨hP1_13, hK1_13, hD1_13⟩ := hB_13
  rw [ht_13] at hP1_13
  have hK1_13 := va_K.moved hvm_13.symm hK1_13
  obtain ⟨hP_13, hD_13⟩ := va_join (wr := [(h4, .inl (k3, 256, .inl (upd (fun _ => 0) 0 0))), (h6, .inl (k5, 256, .inl (upd (fun _ => 0) 0 (-1)))), (h1, .inl (k0, 256, .inl (upd (fun _ => 0) 0 1))), (h2, .inl (k1, 256, .inl (upd (fun _ => 0) 0 0))), (h3, .inl (k2, 256, .inl (upd (fun _ => 0) 0 1))), (h7, .inl (k6, 256, .inl (upd (fun _ => 0) 0 1))), (h5, .inl (k4, 256, .inl (upd (fun _ => 0) 0 5)))]) (w1 := [(h0, .inr (13, [.int 0, .int 1, .int 0, .int 0, .ref h5, .ref h6, .ref h7, .ref h8, .ref h9, .ref h10, .ref h11, .ref h12, .ref h13, .ref h1, .ref h2, .ref h3, .ref h4, .ref h14, .ref h15, .ref h16]))]) hP_11 hD_11 [7] [0, 1, 2, 3, 4, 5, 6] rfl rfl (by decide) (by decide) hk_13 hFc_13 hP1_13 hD1_13
  have hK_13 := (hK_11.sub (tys' := [(k3, .boolean), (k5, .int), (k0, .int), (k1, .int), (k2, .boolean), (k6, .int), (k4, .int)]) [0, 1, 2, 3, 4, 5, 6] rfl).app hK1_13
  have hK_13 : va_K (dC, dI) vwCl [(k3, .boolean), (k5, .int), (k0, .int), (k1, .int), (k2, .boolean), (k6, .int), (k4, .int)] s := hK_13
  have hP_13 : va_P (dC, dI) vwCl [(h4, .inl (k3, 256, .inl (upd (fun _ => 0) 0 0))), (h6, .inl (k5, 256, .inl (upd (fun _ => 0) 0 (-1)))), (h1, .inl (k0, 256, .inl (upd (fun _ => 0) 0 1))), (h2, .inl (k1, 256, .inl (upd (fun _ => 0) 0 0))), (h3, .inl (k2, 256, .inl (upd (fun _ => 0) 0 1))), (h7, .inl (k6, 256, .inl (upd (fun _ => 0) 0 1))), (h5, .inl (k4, 256, .inl (upd (fun _ => 0) 0 5))), (h0, .inr (13, [.int 0, .int 1, .int 0, .int 0, .ref h5, .ref h6, .ref h7, .ref h8, .ref h9, .ref h10, .ref h11, .ref h12, .ref h13, .ref h1, .ref h2, .ref h3, .ref h4, .ref h14, .ref h15, .ref h16]))] H_13 := hP_13
  have hD_13 : va_D A [(h4, .inl (k3, 256, .inl (upd (fun _ => 0) 0 0))), (h6, .inl (k5, 256, .inl (upd (fun _ => 0) 0 (-1)))), (h1, .inl (k0, 256, .inl (upd (fun _ => 0) 0 1))), (h2, .inl (k1, 256, .inl (upd (fun _ => 0) 0 0))), (h3, .inl (k2, 256, .inl (upd (fun _ => 0) 0 1))), (h7, .inl (k6, 256, .inl (upd (fun _ => 0) 0 1))), (h5, .inl (k4, 256, .inl (upd (fun _ => 0) 0 5))), (h0, .inr (13, [.int 0, .int 1, .int 0, .int 0, .ref h5, .ref h6, .ref h7, .ref h8, .ref h9, .ref h10, .ref h11, .ref h12, .ref h13, .ref h1, .ref h2, .ref h3, .ref h4, .ref h14, .ref h15, .ref h16]))] := hD_13
  clear hP_11 hD_11 hS_11 hK_11 hPc_13 hDc_13 hKc_13 hFc_13 hP1_13 hK1_13 hD1_13 hk_13 hz_13
  refine lv_if_eq (tgt := 95) hx hb dX10_measure_81 (by decide) (fun _ => ?_) (fun c_ => absurd (by decide) c_)
  have hP9 := hP_13.sub (ws' := [(h4, .inl (k3, 256, .inl (upd (fun _ => 0) 0 0))), (h6, .inl (k5, 256, .inl (upd (fun _ => 0) 0 (-1)))), (h1, .inl (k0, 256, .inl (upd (fun _ => 0) 0 1))), (h2, .inl (k1, 256, .inl (upd (fun _ => 0) 0 0))), (h3, .inl (k2, 256, .inl (upd (fun _ => 0) 0 1))), (h7, .inl (k6, 256, .inl (upd (fun _ => 0) 0 1))), (h5, .inl (k4, 256, .inl (upd (fun _ => 0) 0 5))), (h0, .inr (13, [.int 0, .int 1, .int 0, .int 0, .ref h5, .ref h6, .ref h7, .ref h8, .ref h9, .ref h10, .ref h11, .ref h12, .ref h13, .ref h1, .ref h2, .ref h3, .ref h4, .ref h14, .ref h15, .ref h16]))]) [0, 1, 2, 3, 4, 5, 6, 7] rfl
  have hD9 := hD_13.sub (ws' := [(h4, .inl (k3, 256, .inl (upd (fun _ => 0) 0 0))), (h6, .inl (k5, 256, .inl (upd (fun _ => 0) 0 (-1)))), (h1, .inl (k0, 256, .inl (upd (fun _ => 0) 0 1))), (h2, .inl (k1, 256, .inl (upd (fun _ => 0) 0 0))), (h3, .inl (k2, 256, .inl (upd (fun _ => 0) 0 1))), (h7, .inl (k6, 256, .inl (upd (fun _ => 0) 0 1))), (h5, .inl (k4, 256, .inl (upd (fun _ => 0) 0 5))), (h0, .inr (13, [.int 0, .int 1, .int 0, .int 0, .ref h5, .ref h6, .ref h7, .ref h8, .ref h9, .ref h10, .ref h11, .ref h12, .ref h13, .ref h1, .ref h2, .ref h3, .ref h4, .ref h14, .ref h15, .ref h16]))]) [0, 1, 2, 3, 4, 5, 6, 7] (by decide) rfl
  have hK9 := hK_13.sub (tys' := [(k3, .boolean), (k5, .int), (k0, .int), (k1, .int), (k2, .boolean), (k6, .int), (k4, .int)]) [0, 1, 2, 3, 4, 5, 6] rfl
  refine W.widen (k := 0) (n := 0) (by decide) (by decide) ?_
  exact W.vret hx hb hr (fun t9 ht9 hW9 => ⟨⟨0, rfl, rfl, ⟨by rw [ht9]; exact hP9, va_K.moved hW9.alike hK9, hD9⟩⟩, hS_13.F ht9⟩) hS_13.2.2 dX10_measure_95
