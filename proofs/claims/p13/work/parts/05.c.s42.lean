def w_X6_here (v_text_count : Int32) (v_text_items : Nat → Int32) (nv_text_items : Nat) (v_at : Int32) (Q : Int32 → Prop) : Prop :=
  w_X7_at v_at v_text_count v_text_items nv_text_items (fun r_1 => Q r_1)
set_option maxHeartbeats 4000000 in
set_option maxRecDepth 100000 in
theorem mt_X6_here (l : Launch) (dC : Nat → ClassId) (dI : Nat → Nat → Nat) (h0 h1 h2 h3 h4 h5 h6 h7 h8 h9 h10 h11 h12 h13 : Nat) (k0 : ClassId) (v_text_count : Int32) (v_text_over : Bool) (v_text_there : Bool) (v_text_items : Nat → Int32) (nv_text_items : Nat) (v_fault : Int32) (v_faultPlace : Int32) (v_count : Int32) (v_depth : Int32) (v_at : Int32) (v_items : Int32) (v_partCount : Int32) (Q : Int32 → Prop) (w : w_X6_here v_text_count v_text_items nv_text_items v_at Q) (sz : Nat) : Met l yX6_here (WS yX6_here cX6_here 1 (some (.int))) ({ frames := 1, cells := 0, slots := 0, locals := 21 } : Room) (va_Pc [.ref h0] (fun U => U.heap.size = sz ∧ va_P (dC, dI) vwCl [(h1, .inr (10, oX7 (.ref h2) v_text_count v_text_over v_text_there)), (h2, .inl (k0, nv_text_items, .inl v_text_items)), (h0, .inr (9, oX6 v_fault v_faultPlace (.ref h3) (.ref h4) (.ref h5) (.ref h6) (.ref h7) (.ref h8) v_count (.ref h9) v_depth (.ref h1) (.ref h10) v_at v_items (.ref h11) (.ref h12) (.ref h13) v_partCount))] U.heap ∧ va_K (dC, dI) vwCl [(k0, .int)] U ∧ va_D (fun _ => True) [(h1, .inr (10, oX7 (.ref h2) v_text_count v_text_over v_text_there)), (h2, .inl (k0, nv_text_items, .inl v_text_items)), (h0, .inr (9, oX6 v_fault v_faultPlace (.ref h3) (.ref h4) (.ref h5) (.ref h6) (.ref h7) (.ref h8) v_count (.ref h9) v_depth (.ref h1) (.ref h10) v_at v_items (.ref h11) (.ref h12) (.ref h13) v_partCount))])) (va_Qi (fun (r u : Int32) => r = u) (fun (u : Int32) (t : State) => (Q u) ∧ va_P (dC, dI) vwCl [(h1, .inr (10, oX7 (.ref h2) v_text_count v_text_over v_text_there)), (h2, .inl (k0, nv_text_items, .inl v_text_items)), (h0, .inr (9, oX6 v_fault v_faultPlace (.ref h3) (.ref h4) (.ref h5) (.ref h6) (.ref h7) (.ref h8) v_count (.ref h9) v_depth (.ref h1) (.ref h10) v_at v_items (.ref h11) (.ref h12) (.ref h13) v_partCount))] t.heap ∧ va_D (va_A [(h1, .inr (10, oX7 (.ref h2) v_text_count v_text_over v_text_there)), (h2, .inl (k0, nv_text_items, .inl v_text_items)), (h0, .inr (9, oX6 v_fault v_faultPlace (.ref h3) (.ref h4) (.ref h5) (.ref h6) (.ref h7) (.ref h8) v_count (.ref h9) v_depth (.ref h1) (.ref h10) v_at v_items (.ref h11) (.ref h12) (.ref h13) v_partCount))] sz) [(h1, .inr (10, oX7 (.ref h2) v_text_count v_text_over v_text_there)), (h2, .inl (k0, nv_text_items, .inl v_text_items)), (h0, .inr (9, oX6 v_fault v_faultPlace (.ref h3) (.ref h4) (.ref h5) (.ref h6) (.ref h7) (.ref h8) v_count (.ref h9) v_depth (.ref h1) (.ref h10) v_at v_items (.ref h11) (.ref h12) (.ref h13) v_partCount))]) (va_A [(h1, .inr (10, oX7 (.ref h2) v_text_count v_text_over v_text_there)), (h2, .inl (k0, nv_text_items, .inl v_text_items)), (h0, .inr (9, oX6 v_fault v_faultPlace (.ref h3) (.ref h4) (.ref h5) (.ref h6) (.ref h7) (.ref h8) v_count (.ref h9) v_depth (.ref h1) (.ref h10) v_at v_items (.ref h11) (.ref h12) (.ref h13) v_partCount))] sz)) 0 0 (va_A [(h1, .inr (10, oX7 (.ref h2) v_text_count v_text_over v_text_there)), (h2, .inl (k0, nv_text_items, .inl v_text_items)), (h0, .inr (9, oX6 v_fault v_faultPlace (.ref h3) (.ref h4) (.ref h5) (.ref h6) (.ref h7) (.ref h8) v_count (.ref h9) v_depth (.ref h1) (.ref h10) v_at v_items (.ref h11) (.ref h12) (.ref h13) v_partCount))] sz) := by
  refine Met.ofW (cc := cX6_here) (maxL := 1) (ret := (some (.int))) (by decide) rfl ?_
  intro p e s m args below meth c s₁ B hml hv
  obtain ⟨rfl, hsz, hP, hK, hD0⟩ := hv
  have hx := B.exec
  have hb := B.bytes
  have hr := B.returns
  have hts := atoms_spec (ws := WS yX6_here cX6_here 1 (some (.int))) B.pre
  have ht : ∀ w ∈ TW, w.before _ s = true := fun w h => hts w (List.mem_cons_of_mem _ h)
  have hown : s.vm.findClass "PatternWorkshop$Reader" = some m.cls := findClass_of_methodNamed B.named
  have hlocks := B.notSynchronized
  subst hsz
  have hD := hD0.self (sz := s.heap.size)
  generalize hAe : va_A [(h1, .inr (10, oX7 (.ref h2) v_text_count v_text_over v_text_there)), (h2, .inl (k0, nv_text_items, .inl v_text_items)), (h0, .inr (9, oX6 v_fault v_faultPlace (.ref h3) (.ref h4) (.ref h5) (.ref h6) (.ref h7) (.ref h8) v_count (.ref h9) v_depth (.ref h1) (.ref h10) v_at v_items (.ref h11) (.ref h12) (.ref h13) v_partCount))] s.heap.size = A at hD ⊢
  have hA : ∀ q : Nat, s.heap.size ≤ q → A q := fun q h => by rw [← hAe]; exact Or.inr h
  have hS : va_S A s.heap s.heap [] := va_S.rf
  have hP : va_P (dC, dI) vwCl [(h1, .inr (10, oX7 (.ref h2) v_text_count v_text_over v_text_there)), (h2, .inl (k0, nv_text_items, .inl v_text_items)), (h0, .inr (9, oX6 v_fault v_faultPlace (.ref h3) (.ref h4) (.ref h5) (.ref h6) (.ref h7) (.ref h8) v_count (.ref h9) v_depth (.ref h1) (.ref h10) v_at v_items (.ref h11) (.ref h12) (.ref h13) v_partCount))] s.heap := hP
  have hl := lv_entry ([.ref h0]) (n := 1) (Nat.le_of_ble_eq_true rfl)
  rw [lg_entry_eq]
  generalize (lg_sl ([.ref h0]) ++ List.replicate (1 - (lg_sl ([.ref h0])).length) Slot.unset).toArray = ls at hl ⊢
  have hl : lv_has ls 1 [(0, .ref h0)] := hl
  clear hD0
  obtain ⟨QQ, hQQ⟩ : ∃ QQ, QQ = MQ below (va_Qi (fun (r u : Int32) => r = u) (fun (u : Int32) (t : State) => (Q u) ∧ va_P (dC, dI) vwCl [(h1, .inr (10, oX7 (.ref h2) v_text_count v_text_over v_text_there)), (h2, .inl (k0, nv_text_items, .inl v_text_items)), (h0, .inr (9, oX6 v_fault v_faultPlace (.ref h3) (.ref h4) (.ref h5) (.ref h6) (.ref h7) (.ref h8) v_count (.ref h9) v_depth (.ref h1) (.ref h10) v_at v_items (.ref h11) (.ref h12) (.ref h13) v_partCount))] t.heap ∧ va_D A [(h1, .inr (10, oX7 (.ref h2) v_text_count v_text_over v_text_there)), (h2, .inl (k0, nv_text_items, .inl v_text_items)), (h0, .inr (9, oX6 v_fault v_faultPlace (.ref h3) (.ref h4) (.ref h5) (.ref h6) (.ref h7) (.ref h8) v_count (.ref h9) v_depth (.ref h1) (.ref h10) v_at v_items (.ref h11) (.ref h12) (.ref h13) v_partCount))]) A) ([.ref h0]).toArray s 0 0 A := ⟨_, rfl⟩
  show W p l e ({ frames := 1, cells := 0, slots := 0, locals := 21 } : Room) s m ([.ref h0]).toArray below meth c s.heap [] 0 0 (MQ below (va_Qi (fun (r u : Int32) => r = u) (fun (u : Int32) (t : State) => (Q u) ∧ va_P (dC, dI) vwCl [(h1, .inr (10, oX7 (.ref h2) v_text_count v_text_over v_text_there)), (h2, .inl (k0, nv_text_items, .inl v_text_items)), (h0, .inr (9, oX6 v_fault v_faultPlace (.ref h3) (.ref h4) (.ref h5) (.ref h6) (.ref h7) (.ref h8) v_count (.ref h9) v_depth (.ref h1) (.ref h10) v_at v_items (.ref h11) (.ref h12) (.ref h13) v_partCount))] t.heap ∧ va_D A [(h1, .inr (10, oX7 (.ref h2) v_text_count v_text_over v_text_there)), (h2, .inl (k0, nv_text_items, .inl v_text_items)), (h0, .inr (9, oX6 v_fault v_faultPlace (.ref h3) (.ref h4) (.ref h5) (.ref h6) (.ref h7) (.ref h8) v_count (.ref h9) v_depth (.ref h1) (.ref h10) v_at v_items (.ref h11) (.ref h12) (.ref h13) v_partCount))]) A) ([.ref h0]).toArray s 0 0 A) (F0 m 0 ls [])
  rw [← hQQ]
  unfold w_X6_here at w
  refine lv_aload_n hx hb dX6_here_0 rfl (lv_at hl 0 rfl) ?_
  refine va_get (D := (dC, dI)) (ci := 9) (v := .ref h1) (C := RX6) (T := TX6) (N := 19) hx hb ht inX6 hown hK hP 2 rfl rfl 11 (by decide) (ht _ tw_448) (fun _ h9 => h9) rfl dX6_here_1 ?_
  refine lv_aload_n hx hb dX6_here_4 rfl (lv_at hl 0 rfl) ?_
  refine va_get (D := (dC, dI)) (ci := 9) (v := .int v_at) (C := RX6) (T := TX6) (N := 19) hx hb ht inX6 hown hK hP 2 rfl rfl 13 (by decide) (ht _ tw_450) (fun _ h9 => h9) rfl dX6_here_5 ?_
  have hPc_1 := hP.sub (ws' := [(h1, .inr (10, oX7 (.ref h2) v_text_count v_text_over v_text_there)), (h2, .inl (k0, nv_text_items, .inl v_text_items))]) [0, 1] rfl
  have hDc_1 := hD.sub (ws' := [(h1, .inr (10, oX7 (.ref h2) v_text_count v_text_over v_text_there)), (h2, .inl (k0, nv_text_items, .inl v_text_items))]) [0, 1] (by decide) rfl
  have hKc_1 := hK.sub (tys' := [(k0, .int)]) [0] rfl
  have hFc_1 := va_free (wc := [(h1, .inr (10, oX7 (.ref h2) v_text_count v_text_over v_text_there)), (h2, .inl (k0, nv_text_items, .inl v_text_items))]) hD hS hA [0, 1] rfl
  refine va_calli (va_runV (As := [.int v_at]) (rest := []) ⟨hx, hb, hml, hown, ht⟩ (mt_X7_at l dC dI h1 h2 k0 v_at v_text_count v_text_over v_text_there v_text_items nv_text_items _ w s.heap.size) (cwV 1 ht (goodV tw_907 tw_908 tw_909 tw_237 gw_X7_at) rfl rfl rfl (by decide +kernel) ⟨Nat.le_of_ble_eq_true rfl, Nat.le_of_ble_eq_true rfl⟩) ⟨fun a U g mk q => by obtain ⟨q0, q1, qP, qK, qD⟩ := q; exact ⟨q0, q1, qP, va_K.moved (u := U) (U := U.calling g mk a) (Vm.Alike.refl U.vm) qK, qD⟩, va_recv hKc_1 hPc_1 (ci := 10) (q0 := 0) rfl rfl, fun U hU hW => ⟨rfl, by rw [hU], by rw [hU]; exact hPc_1, va_K.moved hW.alike hKc_1, hDc_1.weaken (fun _ _ _ _ => trivial)⟩⟩ rfl rfl hl.1 rfl (lv_room (Nat.le_of_ble_eq_true rfl)) dX6_here_8 ⟨Nat.le_of_ble_eq_true rfl, Nat.le_of_ble_eq_true rfl⟩) hS (fun q _ h => hFc_1 q h) hFc_1 (fun r_1 u_1 t_1 H_1 locs_1 ht_1 hvm_1 hw_1 hB_1 hz_1 hk_1 hS_1 => ?_)
  subst hw_1
  obtain ⟨w_1, hP1_1, hD1_1⟩ := hB_1
  rw [ht_1] at hP1_1
  obtain ⟨hP_1, hD_1⟩ := va_join (wr := [(h0, .inr (9, oX6 v_fault v_faultPlace (.ref h3) (.ref h4) (.ref h5) (.ref h6) (.ref h7) (.ref h8) v_count (.ref h9) v_depth (.ref h1) (.ref h10) v_at v_items (.ref h11) (.ref h12) (.ref h13) v_partCount))]) (w1 := [(h1, .inr (10, oX7 (.ref h2) v_text_count v_text_over v_text_there)), (h2, .inl (k0, nv_text_items, .inl v_text_items))]) hP hD [0, 1] [2] rfl rfl (by decide) (by decide) hk_1 hFc_1 hP1_1 hD1_1
  have hP_1 := hP_1.sub (ws' := [(h1, .inr (10, oX7 (.ref h2) v_text_count v_text_over v_text_there)), (h2, .inl (k0, nv_text_items, .inl v_text_items)), (h0, .inr (9, oX6 v_fault v_faultPlace (.ref h3) (.ref h4) (.ref h5) (.ref h6) (.ref h7) (.ref h8) v_count (.ref h9) v_depth (.ref h1) (.ref h10) v_at v_items (.ref h11) (.ref h12) (.ref h13) v_partCount))]) [1, 2, 0] rfl
  have hD_1 := hD_1.sub (ws' := [(h1, .inr (10, oX7 (.ref h2) v_text_count v_text_over v_text_there)), (h2, .inl (k0, nv_text_items, .inl v_text_items)), (h0, .inr (9, oX6 v_fault v_faultPlace (.ref h3) (.ref h4) (.ref h5) (.ref h6) (.ref h7) (.ref h8) v_count (.ref h9) v_depth (.ref h1) (.ref h10) v_at v_items (.ref h11) (.ref h12) (.ref h13) v_partCount))]) [1, 2, 0] (by decide) rfl
  clear hPc_1 hDc_1 hKc_1 hFc_1 hP1_1 hD1_1 hk_1 hz_1
  rw [hQQ]
  exact W.iret (v := r_1) hx hb hr (fun t9 ht9 hW9 => ⟨⟨r_1, r_1, rfl, rfl, ⟨w_1, by rw [ht9]; exact hP_1, hD_1⟩⟩, hS_1.F ht9⟩) hS_1.2.2 dX6_here_11
def w_X6_blame_17 (Q : Int32 → Int32 → Prop) (v_fault_17 : Int32) (v_faultPlace_17 : Int32) : Prop :=
  Q  v_fault_17 v_faultPlace_17
def w_X6_blame (p1 : Int32) (p2 : Int32) (v_fault : Int32) (v_faultPlace : Int32) (Q : Int32 → Int32 → Prop) : Prop :=
  ((¬ v_fault = 0) → w_X6_blame_17 Q v_fault v_faultPlace) ∧ ((v_fault = 0) → w_X6_blame_17 Q p1 p2)
set_option maxHeartbeats 4000000 in
set_option maxRecDepth 100000 in
theorem mt_X6_blame (l : Launch) (dC : Nat → ClassId) (dI : Nat → Nat → Nat) (h0 h1 h2 h3 h4 h5 h6 h7 h8 h9 h10 h11 h12 : Nat) (p1 : Int32) (p2 : Int32) (v_fault : Int32) (v_faultPlace : Int32) (v_count : Int32) (v_depth : Int32) (v_at : Int32) (v_items : Int32) (v_partCount : Int32) (Q : Int32 → Int32 → Prop) (w : w_X6_blame p1 p2 v_fault v_faultPlace Q) (sz : Nat) : Met l yX6_blame (WS yX6_blame cX6_blame 3 none) ({ frames := 0, cells := 0, slots := 0, locals := 0 } : Room) (va_Pc [.ref h0, .int p1, .int p2] (fun U => U.heap.size = sz ∧ va_P (dC, dI) vwCl [(h0, .inr (9, oX6 v_fault v_faultPlace (.ref h1) (.ref h2) (.ref h3) (.ref h4) (.ref h5) (.ref h6) v_count (.ref h7) v_depth (.ref h8) (.ref h9) v_at v_items (.ref h10) (.ref h11) (.ref h12) v_partCount))] U.heap ∧ va_K (dC, dI) vwCl [] U ∧ va_D (fun _ => True) [(h0, .inr (9, oX6 v_fault v_faultPlace (.ref h1) (.ref h2) (.ref h3) (.ref h4) (.ref h5) (.ref h6) v_count (.ref h7) v_depth (.ref h8) (.ref h9) v_at v_items (.ref h10) (.ref h11) (.ref h12) v_partCount))])) (va_Qv (fun (u : Nat) => u = 0) (fun (_ : Nat) (t : State) => ∃ (ov_fault : Int32), ∃ (ov_faultPlace : Int32), (Q ov_fault ov_faultPlace) ∧ va_P (dC, dI) vwCl [(h0, .inr (9, oX6 ov_fault ov_faultPlace (.ref h1) (.ref h2) (.ref h3) (.ref h4) (.ref h5) (.ref h6) v_count (.ref h7) v_depth (.ref h8) (.ref h9) v_at v_items (.ref h10) (.ref h11) (.ref h12) v_partCount))] t.heap ∧ va_D (va_A [(h0, .inr (9, oX6 v_fault v_faultPlace (.ref h1) (.ref h2) (.ref h3) (.ref h4) (.ref h5) (.ref h6) v_count (.ref h7) v_depth (.ref h8) (.ref h9) v_at v_items (.ref h10) (.ref h11) (.ref h12) v_partCount))] sz) [(h0, .inr (9, oX6 ov_fault ov_faultPlace (.ref h1) (.ref h2) (.ref h3) (.ref h4) (.ref h5) (.ref h6) v_count (.ref h7) v_depth (.ref h8) (.ref h9) v_at v_items (.ref h10) (.ref h11) (.ref h12) v_partCount))]) (va_A [(h0, .inr (9, oX6 v_fault v_faultPlace (.ref h1) (.ref h2) (.ref h3) (.ref h4) (.ref h5) (.ref h6) v_count (.ref h7) v_depth (.ref h8) (.ref h9) v_at v_items (.ref h10) (.ref h11) (.ref h12) v_partCount))] sz)) 0 0 (va_A [(h0, .inr (9, oX6 v_fault v_faultPlace (.ref h1) (.ref h2) (.ref h3) (.ref h4) (.ref h5) (.ref h6) v_count (.ref h7) v_depth (.ref h8) (.ref h9) v_at v_items (.ref h10) (.ref h11) (.ref h12) v_partCount))] sz) := by
  refine Met.ofW (cc := cX6_blame) (maxL := 3) (ret := none) (by decide) rfl ?_
  intro p e s m args below meth c s₁ B hml hv
  obtain ⟨rfl, hsz, hP, hK, hD0⟩ := hv
  have hx := B.exec
  have hb := B.bytes
  have hr := B.returns
  have hts := atoms_spec (ws := WS yX6_blame cX6_blame 3 none) B.pre
  have ht : ∀ w ∈ TW, w.before _ s = true := fun w h => hts w (List.mem_cons_of_mem _ h)
  have hown : s.vm.findClass "PatternWorkshop$Reader" = some m.cls := findClass_of_methodNamed B.named
  have hlocks := B.notSynchronized
  subst hsz
  have hD := hD0.self (sz := s.heap.size)
  generalize hAe : va_A [(h0, .inr (9, oX6 v_fault v_faultPlace (.ref h1) (.ref h2) (.ref h3) (.ref h4) (.ref h5) (.ref h6) v_count (.ref h7) v_depth (.ref h8) (.ref h9) v_at v_items (.ref h10) (.ref h11) (.ref h12) v_partCount))] s.heap.size = A at hD ⊢
  have hA : ∀ q : Nat, s.heap.size ≤ q → A q := fun q h => by rw [← hAe]; exact Or.inr h
  have hS : va_S A s.heap s.heap [] := va_S.rf
  have hP : va_P (dC, dI) vwCl [(h0, .inr (9, oX6 v_fault v_faultPlace (.ref h1) (.ref h2) (.ref h3) (.ref h4) (.ref h5) (.ref h6) v_count (.ref h7) v_depth (.ref h8) (.ref h9) v_at v_items (.ref h10) (.ref h11) (.ref h12) v_partCount))] s.heap := hP
  have hl := lv_entry ([.ref h0, .int p1, .int p2]) (n := 3) (Nat.le_of_ble_eq_true rfl)
  rw [lg_entry_eq]
  generalize (lg_sl ([.ref h0, .int p1, .int p2]) ++ List.replicate (3 - (lg_sl ([.ref h0, .int p1, .int p2])).length) Slot.unset).toArray = ls at hl ⊢
  have hl : lv_has ls 3 [(0, .ref h0), (1, .int p1), (2, .int p2)] := hl
  clear hD0
  obtain ⟨QQ, hQQ⟩ : ∃ QQ, QQ = MQ below (va_Qv (fun (u : Nat) => u = 0) (fun (_ : Nat) (t : State) => ∃ (ov_fault : Int32), ∃ (ov_faultPlace : Int32), (Q ov_fault ov_faultPlace) ∧ va_P (dC, dI) vwCl [(h0, .inr (9, oX6 ov_fault ov_faultPlace (.ref h1) (.ref h2) (.ref h3) (.ref h4) (.ref h5) (.ref h6) v_count (.ref h7) v_depth (.ref h8) (.ref h9) v_at v_items (.ref h10) (.ref h11) (.ref h12) v_partCount))] t.heap ∧ va_D A [(h0, .inr (9, oX6 ov_fault ov_faultPlace (.ref h1) (.ref h2) (.ref h3) (.ref h4) (.ref h5) (.ref h6) v_count (.ref h7) v_depth (.ref h8) (.ref h9) v_at v_items (.ref h10) (.ref h11) (.ref h12) v_partCount))]) A) ([.ref h0, .int p1, .int p2]).toArray s 0 0 A := ⟨_, rfl⟩
  show W p l e ({ frames := 0, cells := 0, slots := 0, locals := 0 } : Room) s m ([.ref h0, .int p1, .int p2]).toArray below meth c s.heap [] 0 0 (MQ below (va_Qv (fun (u : Nat) => u = 0) (fun (_ : Nat) (t : State) => ∃ (ov_fault : Int32), ∃ (ov_faultPlace : Int32), (Q ov_fault ov_faultPlace) ∧ va_P (dC, dI) vwCl [(h0, .inr (9, oX6 ov_fault ov_faultPlace (.ref h1) (.ref h2) (.ref h3) (.ref h4) (.ref h5) (.ref h6) v_count (.ref h7) v_depth (.ref h8) (.ref h9) v_at v_items (.ref h10) (.ref h11) (.ref h12) v_partCount))] t.heap ∧ va_D A [(h0, .inr (9, oX6 ov_fault ov_faultPlace (.ref h1) (.ref h2) (.ref h3) (.ref h4) (.ref h5) (.ref h6) v_count (.ref h7) v_depth (.ref h8) (.ref h9) v_at v_items (.ref h10) (.ref h11) (.ref h12) v_partCount))]) A) ([.ref h0, .int p1, .int p2]).toArray s 0 0 A) (F0 m 0 ls [])
  rw [← hQQ]
  unfold w_X6_blame at w
  refine lv_aload_n hx hb dX6_blame_0 rfl (lv_at hl 0 rfl) ?_
  refine va_get (D := (dC, dI)) (ci := 9) (v := .int v_fault) (C := RX6) (T := TX6) (N := 19) hx hb ht inX6 hown hK hP 0 rfl rfl 0 (by decide) (ht _ tw_435) (fun _ h9 => h9) rfl dX6_blame_1 ?_
  have k_17 : ∀ (v_fault_17 : Int32) (v_faultPlace_17 : Int32), ∀ (H_b17 : Heap) (locs_b17 : List Loc) (ls_b17 : Array Slot), w_X6_blame_17 Q v_fault_17 v_faultPlace_17 → va_P (dC, dI) vwCl [(h0, .inr (9, oX6 v_fault_17 v_faultPlace_17 (.ref h1) (.ref h2) (.ref h3) (.ref h4) (.ref h5) (.ref h6) v_count (.ref h7) v_depth (.ref h8) (.ref h9) v_at v_items (.ref h10) (.ref h11) (.ref h12) v_partCount))] H_b17 → va_D A [(h0, .inr (9, oX6 v_fault_17 v_faultPlace_17 (.ref h1) (.ref h2) (.ref h3) (.ref h4) (.ref h5) (.ref h6) v_count (.ref h7) v_depth (.ref h8) (.ref h9) v_at v_items (.ref h10) (.ref h11) (.ref h12) v_partCount))] → va_S A s.heap H_b17 locs_b17 → lv_has ls_b17 3 [] → W p l e ({ frames := 0, cells := 0, slots := 0, locals := 0 } : Room) s m ([.ref h0, .int p1, .int p2]).toArray below meth c H_b17 locs_b17 0 0 QQ (F0 m 17 ls_b17 []) := by
    intro v_fault_17 v_faultPlace_17 H_b17 locs_b17 ls_b17 w_b17 hP_b17 hD_b17 hS_b17 hl_b17
    unfold w_X6_blame_17 at w_b17
    rw [hQQ]
    exact W.vret hx hb hr (fun t9 ht9 hW9 => ⟨⟨0, rfl, rfl, ⟨v_fault_17, v_faultPlace_17, w_b17, by rw [ht9]; exact hP_b17, hD_b17⟩⟩, hS_b17.F ht9⟩) hS_b17.2.2 dX6_blame_17
  refine lv_if_ne (tgt := 17) hx hb dX6_blame_4 (by decide) (fun c_1 => ?_) (fun c_1 => ?_)
  · exact k_17 v_fault v_faultPlace _ _ _ (w.1 c_1) hP hD hS (lv_sub hl [] rfl)
  · refine lv_aload_n hx hb dX6_blame_7 rfl (lv_at hl 0 rfl) ?_
    refine lv_iload_n hx hb dX6_blame_8 rfl (lv_at hl 1 rfl) ?_
    refine va_put (D := (dC, dI)) (ci := 9) (v := .int p1) (ty := .int) (C := RX6) (T := TX6) (N := 19) hx hb ht inX6 tyX6 tyX6_ok nmX6 hown hK hP hD hS 0 rfl rfl 0 (by decide) (ht _ tw_435) (fun _ h9 => h9) rfl (by decide +kernel) rfl rfl (Nat.le_of_ble_eq_true rfl) dX6_blame_9 (fun H_2 locs_2 hP_2 hD_2 hS_2 => ?_)
    have hP_2 : va_P (dC, dI) vwCl [(h0, .inr (9, oX6 p1 v_faultPlace (.ref h1) (.ref h2) (.ref h3) (.ref h4) (.ref h5) (.ref h6) v_count (.ref h7) v_depth (.ref h8) (.ref h9) v_at v_items (.ref h10) (.ref h11) (.ref h12) v_partCount))] H_2 := hP_2
    have hD_2 : va_D A [(h0, .inr (9, oX6 p1 v_faultPlace (.ref h1) (.ref h2) (.ref h3) (.ref h4) (.ref h5) (.ref h6) v_count (.ref h7) v_depth (.ref h8) (.ref h9) v_at v_items (.ref h10) (.ref h11) (.ref h12) v_partCount))] := hD_2
    refine lv_aload_n hx hb dX6_blame_12 rfl (lv_at hl 0 rfl) ?_
    refine lv_iload_n hx hb dX6_blame_13 rfl (lv_at hl 2 rfl) ?_
    refine va_put (D := (dC, dI)) (ci := 9) (v := .int p2) (ty := .int) (C := RX6) (T := TX6) (N := 19) hx hb ht inX6 tyX6 tyX6_ok nmX6 hown hK hP_2 hD_2 hS_2 0 rfl rfl 1 (by decide) (ht _ tw_438) (fun _ h9 => h9) rfl (by decide +kernel) rfl rfl (Nat.le_of_ble_eq_true rfl) dX6_blame_14 (fun H_3 locs_3 hP_3 hD_3 hS_3 => ?_)
    have hP_3 : va_P (dC, dI) vwCl [(h0, .inr (9, oX6 p1 p2 (.ref h1) (.ref h2) (.ref h3) (.ref h4) (.ref h5) (.ref h6) v_count (.ref h7) v_depth (.ref h8) (.ref h9) v_at v_items (.ref h10) (.ref h11) (.ref h12) v_partCount))] H_3 := hP_3
    have hD_3 : va_D A [(h0, .inr (9, oX6 p1 p2 (.ref h1) (.ref h2) (.ref h3) (.ref h4) (.ref h5) (.ref h6) v_count (.ref h7) v_depth (.ref h8) (.ref h9) v_at v_items (.ref h10) (.ref h11) (.ref h12) v_partCount))] := hD_3
    exact k_17 p1 p2 _ _ _ (w.2 c_1) hP_3 hD_3 hS_3 (lv_sub hl [] rfl)
def w_X6_countItem_40 (Q : Int32 → Int32 → Int32 → Int32 → Prop) (s0_40 : Int32) (v_fault_40 : Int32) (v_faultPlace_40 : Int32) (v_items_40 : Int32) : Prop :=
  (s0_40 = 0 ∨ s0_40 = 1) ∧ Q s0_40 v_fault_40 v_faultPlace_40 v_items_40
def w_X6_countItem_28 (Q : Int32 → Int32 → Int32 → Int32 → Prop) (v_fault_28 : Int32) (v_faultPlace_28 : Int32) (v_items_28 : Int32) : Prop :=
  ((¬ v_fault_28 = 0) → w_X6_countItem_40 Q 0 v_fault_28 v_faultPlace_28 v_items_28) ∧ ((v_fault_28 = 0) → w_X6_countItem_40 Q 1 v_fault_28 v_faultPlace_28 v_items_28)
def w_X6_countItem (v_fault : Int32) (v_faultPlace : Int32) (v_at : Int32) (v_items : Int32) (Q : Int32 → Int32 → Int32 → Int32 → Prop) : Prop :=
  ∀ x_1 : Int32, x_1 = v_items + (1 : Int32) → ((x_1 ≤ 100) → w_X6_countItem_28 Q v_fault v_faultPlace x_1) ∧ ((¬ x_1 ≤ 100) → w_X6_blame 2 v_at v_fault v_faultPlace (fun r_5_0 r_5_1 => w_X6_countItem_28 Q r_5_0 r_5_1 x_1))
set_option maxHeartbeats 4000000 in
set_option maxRecDepth 100000 in
theorem mt_X6_countItem (l : Launch) (dC : Nat → ClassId) (dI : Nat → Nat → Nat) (h0 h1 h2 h3 h4 h5 h6 h7 h8 h9 h10 h11 h12 : Nat) (v_fault : Int32) (v_faultPlace : Int32) (v_count : Int32) (v_depth : Int32) (v_at : Int32) (v_items : Int32) (v_partCount : Int32) (Q : Int32 → Int32 → Int32 → Int32 → Prop) (w : w_X6_countItem v_fault v_faultPlace v_at v_items Q) (sz : Nat) : Met l yX6_countItem (WS yX6_countItem cX6_countItem 1 (some (.boolean))) ({ frames := 1, cells := 0, slots := 0, locals := 22 } : Room) (va_Pc [.ref h0] (fun U => U.heap.size = sz ∧ va_P (dC, dI) vwCl [(h0, .inr (9, oX6 v_fault v_faultPlace (.ref h1) (.ref h2) (.ref h3) (.ref h4) (.ref h5) (.ref h6) v_count (.ref h7) v_depth (.ref h8) (.ref h9) v_at v_items (.ref h10) (.ref h11) (.ref h12) v_partCount))] U.heap ∧ va_K (dC, dI) vwCl [] U ∧ va_D (fun _ => True) [(h0, .inr (9, oX6 v_fault v_faultPlace (.ref h1) (.ref h2) (.ref h3) (.ref h4) (.ref h5) (.ref h6) v_count (.ref h7) v_depth (.ref h8) (.ref h9) v_at v_items (.ref h10) (.ref h11) (.ref h12) v_partCount))])) (va_Qi (fun (r u : Int32) => r = u) (fun (u : Int32) (t : State) => ∃ (ov_fault : Int32), ∃ (ov_faultPlace : Int32), ∃ (ov_items : Int32), (Q u ov_fault ov_faultPlace ov_items) ∧ va_P (dC, dI) vwCl [(h0, .inr (9, oX6 ov_fault ov_faultPlace (.ref h1) (.ref h2) (.ref h3) (.ref h4) (.ref h5) (.ref h6) v_count (.ref h7) v_depth (.ref h8) (.ref h9) v_at ov_items (.ref h10) (.ref h11) (.ref h12) v_partCount))] t.heap ∧ va_D (va_A [(h0, .inr (9, oX6 v_fault v_faultPlace (.ref h1) (.ref h2) (.ref h3) (.ref h4) (.ref h5) (.ref h6) v_count (.ref h7) v_depth (.ref h8) (.ref h9) v_at v_items (.ref h10) (.ref h11) (.ref h12) v_partCount))] sz) [(h0, .inr (9, oX6 ov_fault ov_faultPlace (.ref h1) (.ref h2) (.ref h3) (.ref h4) (.ref h5) (.ref h6) v_count (.ref h7) v_depth (.ref h8) (.ref h9) v_at ov_items (.ref h10) (.ref h11) (.ref h12) v_partCount))]) (va_A [(h0, .inr (9, oX6 v_fault v_faultPlace (.ref h1) (.ref h2) (.ref h3) (.ref h4) (.ref h5) (.ref h6) v_count (.ref h7) v_depth (.ref h8) (.ref h9) v_at v_items (.ref h10) (.ref h11) (.ref h12) v_partCount))] sz)) 0 0 (va_A [(h0, .inr (9, oX6 v_fault v_faultPlace (.ref h1) (.ref h2) (.ref h3) (.ref h4) (.ref h5) (.ref h6) v_count (.ref h7) v_depth (.ref h8) (.ref h9) v_at v_items (.ref h10) (.ref h11) (.ref h12) v_partCount))] sz) := by
  refine Met.ofW (cc := cX6_countItem) (maxL := 1) (ret := (some (.boolean))) (by decide) rfl ?_
  intro p e s m args below meth c s₁ B hml hv
  obtain ⟨rfl, hsz, hP, hK, hD0⟩ := hv
  have hx := B.exec
  have hb := B.bytes
  have hr := B.returns
  have hts := atoms_spec (ws := WS yX6_countItem cX6_countItem 1 (some (.boolean))) B.pre
  have ht : ∀ w ∈ TW, w.before _ s = true := fun w h => hts w (List.mem_cons_of_mem _ h)
  have hown : s.vm.findClass "PatternWorkshop$Reader" = some m.cls := findClass_of_methodNamed B.named
  have hlocks := B.notSynchronized
  subst hsz
  have hD := hD0.self (sz := s.heap.size)
  generalize hAe : va_A [(h0, .inr (9, oX6 v_fault v_faultPlace (.ref h1) (.ref h2) (.ref h3) (.ref h4) (.ref h5) (.ref h6) v_count (.ref h7) v_depth (.ref h8) (.ref h9) v_at v_items (.ref h10) (.ref h11) (.ref h12) v_partCount))] s.heap.size = A at hD ⊢
  have hA : ∀ q : Nat, s.heap.size ≤ q → A q := fun q h => by rw [← hAe]; exact Or.inr h
  have hS : va_S A s.heap s.heap [] := va_S.rf
  have hP : va_P (dC, dI) vwCl [(h0, .inr (9, oX6 v_fault v_faultPlace (.ref h1) (.ref h2) (.ref h3) (.ref h4) (.ref h5) (.ref h6) v_count (.ref h7) v_depth (.ref h8) (.ref h9) v_at v_items (.ref h10) (.ref h11) (.ref h12) v_partCount))] s.heap := hP
  have hl := lv_entry ([.ref h0]) (n := 1) (Nat.le_of_ble_eq_true rfl)
  rw [lg_entry_eq]
  generalize (lg_sl ([.ref h0]) ++ List.replicate (1 - (lg_sl ([.ref h0])).length) Slot.unset).toArray = ls at hl ⊢
  have hl : lv_has ls 1 [(0, .ref h0)] := hl
  clear hD0
  obtain ⟨QQ, hQQ⟩ : ∃ QQ, QQ = MQ below (va_Qi (fun (r u : Int32) => r = u) (fun (u : Int32) (t : State) => ∃ (ov_fault : Int32), ∃ (ov_faultPlace : Int32), ∃ (ov_items : Int32), (Q u ov_fault ov_faultPlace ov_items) ∧ va_P (dC, dI) vwCl [(h0, .inr (9, oX6 ov_fault ov_faultPlace (.ref h1) (.ref h2) (.ref h3) (.ref h4) (.ref h5) (.ref h6) v_count (.ref h7) v_depth (.ref h8) (.ref h9) v_at ov_items (.ref h10) (.ref h11) (.ref h12) v_partCount))] t.heap ∧ va_D A [(h0, .inr (9, oX6 ov_fault ov_faultPlace (.ref h1) (.ref h2) (.ref h3) (.ref h4) (.ref h5) (.ref h6) v_count (.ref h7) v_depth (.ref h8) (.ref h9) v_at ov_items (.ref h10) (.ref h11) (.ref h12) v_partCount))]) A) ([.ref h0]).toArray s 0 0 A := ⟨_, rfl⟩
  show W p l e ({ frames := 1, cells := 0, slots := 0, locals := 22 } : Room) s m ([.ref h0]).toArray below meth c s.heap [] 0 0 (MQ below (va_Qi (fun (r u : Int32) => r = u) (fun (u : Int32) (t : State) => ∃ (ov_fault : Int32), ∃ (ov_faultPlace : Int32), ∃ (ov_items : Int32), (Q u ov_fault ov_faultPlace ov_items) ∧ va_P (dC, dI) vwCl [(h0, .inr (9, oX6 ov_fault ov_faultPlace (.ref h1) (.ref h2) (.ref h3) (.ref h4) (.ref h5) (.ref h6) v_count (.ref h7) v_depth (.ref h8) (.ref h9) v_at ov_items (.ref h10) (.ref h11) (.ref h12) v_partCount))] t.heap ∧ va_D A [(h0, .inr (9, oX6 ov_fault ov_faultPlace (.ref h1) (.ref h2) (.ref h3) (.ref h4) (.ref h5) (.ref h6) v_count (.ref h7) v_depth (.ref h8) (.ref h9) v_at ov_items (.ref h10) (.ref h11) (.ref h12) v_partCount))]) A) ([.ref h0]).toArray s 0 0 A) (F0 m 0 ls [])
  rw [← hQQ]
  unfold w_X6_countItem at w
  refine lv_aload_n hx hb dX6_countItem_0 rfl (lv_at hl 0 rfl) ?_
  refine lv_dup hx hb dX6_countItem_1 rfl ?_
  refine va_get (D := (dC, dI)) (ci := 9) (v := .int v_items) (C := RX6) (T := TX6) (N := 19) hx hb ht inX6 hown hK hP 0 rfl rfl 14 (by decide) (ht _ tw_451) (fun _ h9 => h9) rfl dX6_countItem_2 ?_
  refine lv_iconst (v := 1) hx hb dX6_countItem_5 (by decide) ?_
  refine lv_iadd hx hb dX6_countItem_6 ?_
  refine lv_topi (fun x_1 ex_1 => ?_)
  have ex_1 : x_1 = v_items + (1 : Int32) := ex_1
  refine va_put (D := (dC, dI)) (ci := 9) (v := .int x_1) (ty := .int) (C := RX6) (T := TX6) (N := 19) hx hb ht inX6 tyX6 tyX6_ok nmX6 hown hK hP hD hS 0 rfl rfl 14 (by decide) (ht _ tw_451) (fun _ h9 => h9) rfl (by decide +kernel) rfl rfl (Nat.le_of_ble_eq_true rfl) dX6_countItem_7 (fun H_2 locs_2 hP_2 hD_2 hS_2 => ?_)
  have hP_2 : va_P (dC, dI) vwCl [(h0, .inr (9, oX6 v_fault v_faultPlace (.ref h1) (.ref h2) (.ref h3) (.ref h4) (.ref h5) (.ref h6) v_count (.ref h7) v_depth (.ref h8) (.ref h9) v_at x_1 (.ref h10) (.ref h11) (.ref h12) v_partCount))] H_2 := hP_2
  have hD_2 : va_D A [(h0, .inr (9, oX6 v_fault v_faultPlace (.ref h1) (.ref h2) (.ref h3) (.ref h4) (.ref h5) (.ref h6) v_count (.ref h7) v_depth (.ref h8) (.ref h9) v_at x_1 (.ref h10) (.ref h11) (.ref h12) v_partCount))] := hD_2
  refine lv_aload_n hx hb dX6_countItem_10 rfl (lv_at hl 0 rfl) ?_
  refine va_get (D := (dC, dI)) (ci := 9) (v := .int x_1) (C := RX6) (T := TX6) (N := 19) hx hb ht inX6 hown hK hP_2 0 rfl rfl 14 (by decide) (ht _ tw_451) (fun _ h9 => h9) rfl dX6_countItem_11 ?_
  refine lv_bipush (v := 100) hx hb dX6_countItem_14 (by decide) ?_
  have k_28 : ∀ (v_fault_28 : Int32) (v_faultPlace_28 : Int32) (v_items_28 : Int32), ∀ (H_b28 : Heap) (locs_b28 : List Loc) (ls_b28 : Array Slot), w_X6_countItem_28 Q v_fault_28 v_faultPlace_28 v_items_28 → va_P (dC, dI) vwCl [(h0, .inr (9, oX6 v_fault_28 v_faultPlace_28 (.ref h1) (.ref h2) (.ref h3) (.ref h4) (.ref h5) (.ref h6) v_count (.ref h7) v_depth (.ref h8) (.ref h9) v_at v_items_28 (.ref h10) (.ref h11) (.ref h12) v_partCount))] H_b28 → va_D A [(h0, .inr (9, oX6 v_fault_28 v_faultPlace_28 (.ref h1) (.ref h2) (.ref h3) (.ref h4) (.ref h5) (.ref h6) v_count (.ref h7) v_depth (.ref h8) (.ref h9) v_at v_items_28 (.ref h10) (.ref h11) (.ref h12) v_partCount))] → va_S A s.heap H_b28 locs_b28 → lv_has ls_b28 1 [(0, .ref h0)] → W p l e ({ frames := 1, cells := 0, slots := 0, locals := 22 } : Room) s m ([.ref h0]).toArray below meth c H_b28 locs_b28 0 0 QQ (F0 m 28 ls_b28 []) := by
    intro v_fault_28 v_faultPlace_28 v_items_28 H_b28 locs_b28 ls_b28 w_b28 hP_b28 hD_b28 hS_b28 hl_b28
    unfold w_X6_countItem_28 at w_b28
    refine lv_aload_n hx hb dX6_countItem_28 rfl (lv_at hl_b28 0 rfl) ?_
    refine va_get (D := (dC, dI)) (ci := 9) (v := .int v_fault_28) (C := RX6) (T := TX6) (N := 19) hx hb ht inX6 hown hK hP_b28 0 rfl rfl 0 (by decide) (ht _ tw_435) (fun _ h9 => h9) rfl dX6_countItem_29 ?_
    have k_40 : ∀ (s0_40 : Int32) (v_fault_40 : Int32) (v_faultPlace_40 : Int32) (v_items_40 : Int32), ∀ (H_b40 : Heap) (locs_b40 : List Loc) (ls_b40 : Array Slot), w_X6_countItem_40 Q s0_40 v_fault_40 v_faultPlace_40 v_items_40 → va_P (dC, dI) vwCl [(h0, .inr (9, oX6 v_fault_40 v_faultPlace_40 (.ref h1) (.ref h2) (.ref h3) (.ref h4) (.ref h5) (.ref h6) v_count (.ref h7) v_depth (.ref h8) (.ref h9) v_at v_items_40 (.ref h10) (.ref h11) (.ref h12) v_partCount))] H_b40 → va_D A [(h0, .inr (9, oX6 v_fault_40 v_faultPlace_40 (.ref h1) (.ref h2) (.ref h3) (.ref h4) (.ref h5) (.ref h6) v_count (.ref h7) v_depth (.ref h8) (.ref h9) v_at v_items_40 (.ref h10) (.ref h11) (.ref h12) v_partCount))] → va_S A s.heap H_b40 locs_b40 → lv_has ls_b40 1 [] → W p l e ({ frames := 1, cells := 0, slots := 0, locals := 22 } : Room) s m ([.ref h0]).toArray below meth c H_b40 locs_b40 0 0 QQ (F0 m 40 ls_b40 [.int s0_40]) := by
      intro s0_40 v_fault_40 v_faultPlace_40 v_items_40 H_b40 locs_b40 ls_b40 w_b40 hP_b40 hD_b40 hS_b40 hl_b40
      unfold w_X6_countItem_40 at w_b40
      rw [hQQ]
      exact W.zret (v := s0_40) hx hb hr (or_nar w_b40.1) (fun t9 ht9 hW9 => ⟨⟨s0_40, s0_40, rfl, rfl, ⟨v_fault_40, v_faultPlace_40, v_items_40, w_b40.2, by rw [ht9]; exact hP_b40, hD_b40⟩⟩, hS_b40.F ht9⟩) hS_b40.2.2 dX6_countItem_40
    refine lv_if_ne (tgt := 39) hx hb dX6_countItem_32 (by decide) (fun c_3 => ?_) (fun c_3 => ?_)
    · refine lv_iconst (v := 0) hx hb dX6_countItem_39 (by decide) ?_
      exact k_40 0 v_fault_28 v_faultPlace_28 v_items_28 _ _ _ (w_b28.1 c_3) hP_b28 hD_b28 hS_b28 (lv_sub hl_b28 [] rfl)
    · refine lv_iconst (v := 1) hx hb dX6_countItem_35 (by decide) ?_
      refine lv_goto (tgt := 40) hx hb dX6_countItem_36 (by decide) ?_
      exact k_40 1 v_fault_28 v_faultPlace_28 v_items_28 _ _ _ (w_b28.2 c_3) hP_b28 hD_b28 hS_b28 (lv_sub hl_b28 [] rfl)
  refine lv_icmp_le (tgt := 28) hx hb dX6_countItem_16 (by decide) (fun c_4 => ?_) (fun c_4 => ?_)
  · exact k_28 v_fault v_faultPlace x_1 _ _ _ ((w x_1 ex_1).1 c_4) hP_2 hD_2 hS_2 (lv_sub hl [0] rfl)
  · refine lv_aload_n hx hb dX6_countItem_19 rfl (lv_at hl 0 rfl) ?_
    refine lv_iconst (v := 2) hx hb dX6_countItem_20 (by decide) ?_
    refine lv_aload_n hx hb dX6_countItem_21 rfl (lv_at hl 0 rfl) ?_
    refine va_get (D := (dC, dI)) (ci := 9) (v := .int v_at) (C := RX6) (T := TX6) (N := 19) hx hb ht inX6 hown hK hP_2 0 rfl rfl 13 (by decide) (ht _ tw_450) (fun _ h9 => h9) rfl dX6_countItem_22 ?_
    have hPc_5 := hP_2.sub (ws' := [(h0, .inr (9, oX6 v_fault v_faultPlace (.ref h1) (.ref h2) (.ref h3) (.ref h4) (.ref h5) (.ref h6) v_count (.ref h7) v_depth (.ref h8) (.ref h9) v_at x_1 (.ref h10) (.ref h11) (.ref h12) v_partCount))]) [0] rfl
    have hDc_5 := hD_2.sub (ws' := [(h0, .inr (9, oX6 v_fault v_faultPlace (.ref h1) (.ref h2) (.ref h3) (.ref h4) (.ref h5) (.ref h6) v_count (.ref h7) v_depth (.ref h8) (.ref h9) v_at x_1 (.ref h10) (.ref h11) (.ref h12) v_partCount))]) [0] (by decide) rfl
    have hKc_5 := hK.sub (tys' := []) [] rfl
    have hFc_5 := va_free (wc := [(h0, .inr (9, oX6 v_fault v_faultPlace (.ref h1) (.ref h2) (.ref h3) (.ref h4) (.ref h5) (.ref h6) v_count (.ref h7) v_depth (.ref h8) (.ref h9) v_at x_1 (.ref h10) (.ref h11) (.ref h12) v_partCount))]) hD_2 hS_2 hA [0] rfl
    refine va_callv (va_runV (As := [.int 2, .int v_at]) (rest := []) ⟨hx, hb, hml, hown, ht⟩ (mt_X6_blame l dC dI h0 h1 h2 h3 h4 h5 h6 h7 h8 h9 h10 h11 h12 2 v_at v_fault v_faultPlace v_count v_depth v_at x_1 v_partCount _ ((w x_1 ex_1).2 c_4) H_2.size) (cwV 2 ht (goodV tw_931 tw_933 tw_8 tw_239 gw_X6_blame) rfl rfl rfl (by decide +kernel) ⟨Nat.le_of_ble_eq_true rfl, Nat.le_of_ble_eq_true rfl⟩) ⟨fun a U g mk q => by obtain ⟨q0, q1, qP, qK, qD⟩ := q; exact ⟨q0, q1, qP, va_K.moved (u := U) (U := U.calling g mk a) (Vm.Alike.refl U.vm) qK, qD⟩, va_recv hKc_5 hPc_5 (ci := 9) (q0 := 0) rfl rfl, fun U hU hW => ⟨rfl, by rw [hU], by rw [hU]; exact hPc_5, va_K.moved hW.alike hKc_5, hDc_5.weaken (fun _ _ _ _ => trivial)⟩⟩ rfl rfl hl.1 rfl (lv_room (Nat.le_of_ble_eq_true rfl)) dX6_countItem_25 ⟨Nat.le_of_ble_eq_true rfl, Nat.le_of_ble_eq_true rfl⟩) hS_2 (fun q _ h => hFc_5 q h) hFc_5 (fun u_5 t_5 H_5 locs_5 ht_5 hvm_5 hw_5 hB_5 hz_5 hk_5 hS_5 => ?_)
    subst hw_5
    obtain ⟨r_5_0, r_5_1, w_5, hP1_5, hD1_5⟩ := hB_5
    rw [ht_5] at hP1_5
    obtain ⟨hP_5, hD_5⟩ := va_join (wr := []) (w1 := [(h0, .inr (9, oX6 r_5_0 r_5_1 (.ref h1) (.ref h2) (.ref h3) (.ref h4) (.ref h5) (.ref h6) v_count (.ref h7) v_depth (.ref h8) (.ref h9) v_at x_1 (.ref h10) (.ref h11) (.ref h12) v_partCount))]) hP_2 hD_2 [0] [] rfl rfl (by decide) (by decide) hk_5 hFc_5 hP1_5 hD1_5
    have hP_5 := hP_5.sub (ws' := [(h0, .inr (9, oX6 r_5_0 r_5_1 (.ref h1) (.ref h2) (.ref h3) (.ref h4) (.ref h5) (.ref h6) v_count (.ref h7) v_depth (.ref h8) (.ref h9) v_at x_1 (.ref h10) (.ref h11) (.ref h12) v_partCount))]) [0] rfl
    have hD_5 := hD_5.sub (ws' := [(h0, .inr (9, oX6 r_5_0 r_5_1 (.ref h1) (.ref h2) (.ref h3) (.ref h4) (.ref h5) (.ref h6) v_count (.ref h7) v_depth (.ref h8) (.ref h9) v_at x_1 (.ref h10) (.ref h11) (.ref h12) v_partCount))]) [0] (by decide) rfl
    clear hPc_5 hDc_5 hKc_5 hFc_5 hP1_5 hD1_5 hk_5 hz_5
    exact k_28 r_5_0 r_5_1 x_1 _ _ _ w_5 hP_5 hD_5 hS_5 (lv_sub hl [0] rfl)
def w_X6_make (p1 : Int32) (p2 : Int32) (p3 : Int32) (p4 : Int32) (v_fault : Int32) (v_faultPlace : Int32) (v_count : Int32) (v_at : Int32) (v_sort : Nat → Int32) (v_value : Nat → Int32) (v_low : Nat → Int32) (v_high : Nat → Int32) (v_firstPart : Nat → Int32) (v_nextPart : Nat → Int32) (Q : Int32 → Int32 → Int32 → Int32 → (Nat → Int32) → (Nat → Int32) → (Nat → Int32) → (Nat → Int32) → (Nat → Int32) → (Nat → Int32) → Prop) : Prop :=
  ((v_count < 256) → ∀ x_3 : Int32, x_3 = v_count + (1 : Int32) → vp_in v_count 256 ∧ ∀ g_5 : Nat → Int32, g_5 = upd v_sort v_count.toNatClampNeg p1 → vp_in v_count 256 ∧ ∀ g_6 : Nat → Int32, g_6 = upd v_value v_count.toNatClampNeg p2 → vp_in v_count 256 ∧ ∀ g_8 : Nat → Int32, g_8 = upd v_low v_count.toNatClampNeg p3 → vp_in v_count 256 ∧ ∀ g_9 : Nat → Int32, g_9 = upd v_high v_count.toNatClampNeg p4 → vp_in v_count 256 ∧ ∀ g_10 : Nat → Int32, g_10 = upd v_firstPart v_count.toNatClampNeg (-1) → vp_in v_count 256 ∧ ∀ g_12 : Nat → Int32, g_12 = upd v_nextPart v_count.toNatClampNeg (-1) → Q v_count v_fault v_faultPlace x_3 g_5 g_6 g_8 g_9 g_10 g_12) ∧ ((¬ v_count < 256) → w_X6_blame 2 v_at v_fault v_faultPlace (fun r_13_0 r_13_1 => Q 0 r_13_0 r_13_1 v_count v_sort v_value v_low v_high v_firstPart v_nextPart))
set_option maxHeartbeats 4000000 in
set_option maxRecDepth 100000 in
theorem mt_X6_make (l : Launch) (dC : Nat → ClassId) (dI : Nat → Nat → Nat) (h0 h1 h2 h3 h4 h5 h6 h7 h8 h9 h10 h11 h12 : Nat) (k0 k1 k2 k3 k4 k5 : ClassId) (p1 : Int32) (p2 : Int32) (p3 : Int32) (p4 : Int32) (v_fault : Int32) (v_faultPlace : Int32) (v_count : Int32) (v_depth : Int32) (v_at : Int32) (v_items : Int32) (v_partCount : Int32) (v_sort : Nat → Int32) (v_value : Nat → Int32) (v_low : Nat → Int32) (v_high : Nat → Int32) (v_firstPart : Nat → Int32) (v_nextPart : Nat → Int32) (Q : Int32 → Int32 → Int32 → Int32 → (Nat → Int32) → (Nat → Int32) → (Nat → Int32) → (Nat → Int32) → (Nat → Int32) → (Nat → Int32) → Prop) (w : w_X6_make p1 p2 p3 p4 v_fault v_faultPlace v_count v_at v_sort v_value v_low v_high v_firstPart v_nextPart Q) (sz : Nat) : Met l yX6_make (WS yX6_make cX6_make 6 (some (.int))) ({ frames := 1, cells := 0, slots := 0, locals := 22 } : Room) (va_Pc [.ref h0, .int p1, .int p2, .int p3, .int p4] (fun U => U.heap.size = sz ∧ va_P (dC, dI) vwCl [(h0, .inr (9, oX6 v_fault v_faultPlace (.ref h1) (.ref h2) (.ref h3) (.ref h4) (.ref h5) (.ref h6) v_count (.ref h7) v_depth (.ref h8) (.ref h9) v_at v_items (.ref h10) (.ref h11) (.ref h12) v_partCount)), (h1, .inl (k0, 256, .inl v_sort)), (h2, .inl (k1, 256, .inl v_value)), (h3, .inl (k2, 256, .inl v_low)), (h4, .inl (k3, 256, .inl v_high)), (h5, .inl (k4, 256, .inl v_firstPart)), (h6, .inl (k5, 256, .inl v_nextPart))] U.heap ∧ va_K (dC, dI) vwCl [(k0, .int), (k1, .int), (k2, .int), (k3, .int), (k4, .int), (k5, .int)] U ∧ va_D (fun _ => True) [(h0, .inr (9, oX6 v_fault v_faultPlace (.ref h1) (.ref h2) (.ref h3) (.ref h4) (.ref h5) (.ref h6) v_count (.ref h7) v_depth (.ref h8) (.ref h9) v_at v_items (.ref h10) (.ref h11) (.ref h12) v_partCount)), (h1, .inl (k0, 256, .inl v_sort)), (h2, .inl (k1, 256, .inl v_value)), (h3, .inl (k2, 256, .inl v_low)), (h4, .inl (k3, 256, .inl v_high)), (h5, .inl (k4, 256, .inl v_firstPart)), (h6, .inl (k5, 256, .inl v_nextPart))])) (va_Qi (fun (r u : Int32) => r = u) (fun (u : Int32) (t : State) => ∃ (ov_fault : Int32), ∃ (ov_faultPlace : Int32), ∃ (ov_count : Int32), ∃ (ov_sort : Nat → Int32), ∃ (ov_value : Nat → Int32), ∃ (ov_low : Nat → Int32), ∃ (ov_high : Nat → Int32), ∃ (ov_firstPart : Nat → Int32), ∃ (ov_nextPart : Nat → Int32), (Q u ov_fault ov_faultPlace ov_count ov_sort ov_value ov_low ov_high ov_firstPart ov_nextPart) ∧ va_P (dC, dI) vwCl [(h0, .inr (9, oX6 ov_fault ov_faultPlace (.ref h1) (.ref h2) (.ref h3) (.ref h4) (.ref h5) (.ref h6) ov_count (.ref h7) v_depth (.ref h8) (.ref h9) v_at v_items (.ref h10) (.ref h11) (.ref h12) v_partCount)), (h1, .inl (k0, 256, .inl ov_sort)), (h2, .inl (k1, 256, .inl ov_value)), (h3, .inl (k2, 256, .inl ov_low)), (h4, .inl (k3, 256, .inl ov_high)), (h5, .inl (k4, 256, .inl ov_firstPart)), (h6, .inl (k5, 256, .inl ov_nextPart))] t.heap ∧ va_D (va_A [(h0, .inr (9, oX6 v_fault v_faultPlace (.ref h1) (.ref h2) (.ref h3) (.ref h4) (.ref h5) (.ref h6) v_count (.ref h7) v_depth (.ref h8) (.ref h9) v_at v_items (.ref h10) (.ref h11) (.ref h12) v_partCount)), (h1, .inl (k0, 256, .inl v_sort)), (h2, .inl (k1, 256, .inl v_value)), (h3, .inl (k2, 256, .inl v_low)), (h4, .inl (k3, 256, .inl v_high)), (h5, .inl (k4, 256, .inl v_firstPart)), (h6, .inl (k5, 256, .inl v_nextPart))] sz) [(h0, .inr (9, oX6 ov_fault ov_faultPlace (.ref h1) (.ref h2) (.ref h3) (.ref h4) (.ref h5) (.ref h6) ov_count (.ref h7) v_depth (.ref h8) (.ref h9) v_at v_items (.ref h10) (.ref h11) (.ref h12) v_partCount)), (h1, .inl (k0, 256, .inl ov_sort)), (h2, .inl (k1, 256, .inl ov_value)), (h3, .inl (k2, 256, .inl ov_low)), (h4, .inl (k3, 256, .inl ov_high)), (h5, .inl (k4, 256, .inl ov_firstPart)), (h6, .inl (k5, 256, .inl ov_nextPart))]) (va_A [(h0, .inr (9, oX6 v_fault v_faultPlace (.ref h1) (.ref h2) (.ref h3) (.ref h4) (.ref h5) (.ref h6) v_count (.ref h7) v_depth (.ref h8) (.ref h9) v_at v_items (.ref h10) (.ref h11) (.ref h12) v_partCount)), (h1, .inl (k0, 256, .inl v_sort)), (h2, .inl (k1, 256, .inl v_value)), (h3, .inl (k2, 256, .inl v_low)), (h4, .inl (k3, 256, .inl v_high)), (h5, .inl (k4, 256, .inl v_firstPart)), (h6, .inl (k5, 256, .inl v_nextPart))] sz)) 0 0 (va_A [(h0, .inr (9, oX6 v_fault v_faultPlace (.ref h1) (.ref h2) (.ref h3) (.ref h4) (.ref h5) (.ref h6) v_count (.ref h7) v_depth (.ref h8) (.ref h9) v_at v_items (.ref h10) (.ref h11) (.ref h12) v_partCount)), (h1, .inl (k0, 256, .inl v_sort)), (h2, .inl (k1, 256, .inl v_value)), (h3, .inl (k2, 256, .inl v_low)), (h4, .inl (k3, 256, .inl v_high)), (h5, .inl (k4, 256, .inl v_firstPart)), (h6, .inl (k5, 256, .inl v_nextPart))] sz) := by
  refine Met.ofW (cc := cX6_make) (maxL := 6) (ret := (some (.int))) (by decide) rfl ?_
  intro p e s m args below meth c s₁ B hml hv
  obtain ⟨rfl, hsz, hP, hK, hD0⟩ := hv
  have hx := B.exec
  have hb := B.bytes
  have hr := B.returns
  have hts := atoms_spec (ws := WS yX6_make cX6_make 6 (some (.int))) B.pre
  have ht : ∀ w ∈ TW, w.before _ s = true := fun w h => hts w (List.mem_cons_of_mem _ h)
  have hown : s.vm.findClass "PatternWorkshop$Reader" = some m.cls := findClass_of_methodNamed B.named
  have hlocks := B.notSynchronized
  subst hsz
  have hD := hD0.self (sz := s.heap.size)
  generalize hAe : va_A [(h0, .inr (9, oX6 v_fault v_faultPlace (.ref h1) (.ref h2) (.ref h3) (.ref h4) (.ref h5) (.ref h6) v_count (.ref h7) v_depth (.ref h8) (.ref h9) v_at v_items (.ref h10) (.ref h11) (.ref h12) v_partCount)), (h1, .inl (k0, 256, .inl v_sort)), (h2, .inl (k1, 256, .inl v_value)), (h3, .inl (k2, 256, .inl v_low)), (h4, .inl (k3, 256, .inl v_high)), (h5, .inl (k4, 256, .inl v_firstPart)), (h6, .inl (k5, 256, .inl v_nextPart))] s.heap.size = A at hD ⊢
  have hA : ∀ q : Nat, s.heap.size ≤ q → A q := fun q h => by rw [← hAe]; exact Or.inr h
  have hS : va_S A s.heap s.heap [] := va_S.rf
  have hP : va_P (dC, dI) vwCl [(h0, .inr (9, oX6 v_fault v_faultPlace (.ref h1) (.ref h2) (.ref h3) (.ref h4) (.ref h5) (.ref h6) v_count (.ref h7) v_depth (.ref h8) (.ref h9) v_at v_items (.ref h10) (.ref h11) (.ref h12) v_partCount)), (h1, .inl (k0, 256, .inl v_sort)), (h2, .inl (k1, 256, .inl v_value)), (h3, .inl (k2, 256, .inl v_low)), (h4, .inl (k3, 256, .inl v_high)), (h5, .inl (k4, 256, .inl v_firstPart)), (h6, .inl (k5, 256, .inl v_nextPart))] s.heap := hP
  have hl := lv_entry ([.ref h0, .int p1, .int p2, .int p3, .int p4]) (n := 6) (Nat.le_of_ble_eq_true rfl)
  rw [lg_entry_eq]
  generalize (lg_sl ([.ref h0, .int p1, .int p2, .int p3, .int p4]) ++ List.replicate (6 - (lg_sl ([.ref h0, .int p1, .int p2, .int p3, .int p4])).length) Slot.unset).toArray = ls at hl ⊢
  have hl : lv_has ls 6 [(0, .ref h0), (1, .int p1), (2, .int p2), (3, .int p3), (4, .int p4)] := hl
  clear hD0
  obtain ⟨QQ, hQQ⟩ : ∃ QQ, QQ = MQ below (va_Qi (fun (r u : Int32) => r = u) (fun (u : Int32) (t : State) => ∃ (ov_fault : Int32), ∃ (ov_faultPlace : Int32), ∃ (ov_count : Int32), ∃ (ov_sort : Nat → Int32), ∃ (ov_value : Nat → Int32), ∃ (ov_low : Nat → Int32), ∃ (ov_high : Nat → Int32), ∃ (ov_firstPart : Nat → Int32), ∃ (ov_nextPart : Nat → Int32), (Q u ov_fault ov_faultPlace ov_count ov_sort ov_value ov_low ov_high ov_firstPart ov_nextPart) ∧ va_P (dC, dI) vwCl [(h0, .inr (9, oX6 ov_fault ov_faultPlace (.ref h1) (.ref h2) (.ref h3) (.ref h4) (.ref h5) (.ref h6) ov_count (.ref h7) v_depth (.ref h8) (.ref h9) v_at v_items (.ref h10) (.ref h11) (.ref h12) v_partCount)), (h1, .inl (k0, 256, .inl ov_sort)), (h2, .inl (k1, 256, .inl ov_value)), (h3, .inl (k2, 256, .inl ov_low)), (h4, .inl (k3, 256, .inl ov_high)), (h5, .inl (k4, 256, .inl ov_firstPart)), (h6, .inl (k5, 256, .inl ov_nextPart))] t.heap ∧ va_D A [(h0, .inr (9, oX6 ov_fault ov_faultPlace (.ref h1) (.ref h2) (.ref h3) (.ref h4) (.ref h5) (.ref h6) ov_count (.ref h7) v_depth (.ref h8) (.ref h9) v_at v_items (.ref h10) (.ref h11) (.ref h12) v_partCount)), (h1, .inl (k0, 256, .inl ov_sort)), (h2, .inl (k1, 256, .inl ov_value)), (h3, .inl (k2, 256, .inl ov_low)), (h4, .inl (k3, 256, .inl ov_high)), (h5, .inl (k4, 256, .inl ov_firstPart)), (h6, .inl (k5, 256, .inl ov_nextPart))]) A) ([.ref h0, .int p1, .int p2, .int p3, .int p4]).toArray s 0 0 A := ⟨_, rfl⟩
  show W p l e ({ frames := 1, cells := 0, slots := 0, locals := 22 } : Room) s m ([.ref h0, .int p1, .int p2, .int p3, .int p4]).toArray below meth c s.heap [] 0 0 (MQ below (va_Qi (fun (r u : Int32) => r = u) (fun (u : Int32) (t : State) => ∃ (ov_fault : Int32), ∃ (ov_faultPlace : Int32), ∃ (ov_count : Int32), ∃ (ov_sort : Nat → Int32), ∃ (ov_value : Nat → Int32), ∃ (ov_low : Nat → Int32), ∃ (ov_high : Nat → Int32), ∃ (ov_firstPart : Nat → Int32), ∃ (ov_nextPart : Nat → Int32), (Q u ov_fault ov_faultPlace ov_count ov_sort ov_value ov_low ov_high ov_firstPart ov_nextPart) ∧ va_P (dC, dI) vwCl [(h0, .inr (9, oX6 ov_fault ov_faultPlace (.ref h1) (.ref h2) (.ref h3) (.ref h4) (.ref h5) (.ref h6) ov_count (.ref h7) v_depth (.ref h8) (.ref h9) v_at v_items (.ref h10) (.ref h11) (.ref h12) v_partCount)), (h1, .inl (k0, 256, .inl ov_sort)), (h2, .inl (k1, 256, .inl ov_value)), (h3, .inl (k2, 256, .inl ov_low)), (h4, .inl (k3, 256, .inl ov_high)), (h5, .inl (k4, 256, .inl ov_firstPart)), (h6, .inl (k5, 256, .inl ov_nextPart))] t.heap ∧ va_D A [(h0, .inr (9, oX6 ov_fault ov_faultPlace (.ref h1) (.ref h2) (.ref h3) (.ref h4) (.ref h5) (.ref h6) ov_count (.ref h7) v_depth (.ref h8) (.ref h9) v_at v_items (.ref h10) (.ref h11) (.ref h12) v_partCount)), (h1, .inl (k0, 256, .inl ov_sort)), (h2, .inl (k1, 256, .inl ov_value)), (h3, .inl (k2, 256, .inl ov_low)), (h4, .inl (k3, 256, .inl ov_high)), (h5, .inl (k4, 256, .inl ov_firstPart)), (h6, .inl (k5, 256, .inl ov_nextPart))]) A) ([.ref h0, .int p1, .int p2, .int p3, .int p4]).toArray s 0 0 A) (F0 m 0 ls [])
  rw [← hQQ]
  unfold w_X6_make at w
  refine lv_aload_n hx hb dX6_make_0 rfl (lv_at hl 0 rfl) ?_
  refine va_get (D := (dC, dI)) (ci := 9) (v := .int v_count) (C := RX6) (T := TX6) (N := 19) hx hb ht inX6 hown hK hP 0 rfl rfl 8 (by decide) (ht _ tw_445) (fun _ h9 => h9) rfl dX6_make_1 ?_
  refine lv_sipush (v := 256) hx hb dX6_make_4 (by decide) ?_
  refine lv_icmp_lt (tgt := 21) hx hb dX6_make_7 (by decide) (fun c_1 => ?_) (fun c_1 => ?_)
  · refine lv_aload_n hx hb dX6_make_21 rfl (lv_at hl 0 rfl) ?_
    refine va_get (D := (dC, dI)) (ci := 9) (v := .int v_count) (C := RX6) (T := TX6) (N := 19) hx hb ht inX6 hown hK hP 0 rfl rfl 8 (by decide) (ht _ tw_445) (fun _ h9 => h9) rfl dX6_make_22 ?_
    refine lv_istore (lv' := [(5, .int v_count), (0, .ref h0), (1, .int p1), (2, .int p2), (3, .int p3), (4, .int p4)]) hx hb dX6_make_25 hl (by decide) rfl (fun ls_2 hl_2 => ?_)
    clear hl
    refine lv_aload_n hx hb dX6_make_27 rfl (lv_at hl_2 1 rfl) ?_
    refine lv_dup hx hb dX6_make_28 rfl ?_
    refine va_get (D := (dC, dI)) (ci := 9) (v := .int v_count) (C := RX6) (T := TX6) (N := 19) hx hb ht inX6 hown hK hP 0 rfl rfl 8 (by decide) (ht _ tw_445) (fun _ h9 => h9) rfl dX6_make_29 ?_
    refine lv_iconst (v := 1) hx hb dX6_make_32 (by decide) ?_
    refine lv_iadd hx hb dX6_make_33 ?_
    refine lv_topi (fun x_3 ex_3 => ?_)
    have ex_3 : x_3 = v_count + (1 : Int32) := ex_3
    refine va_put (D := (dC, dI)) (ci := 9) (v := .int x_3) (ty := .int) (C := RX6) (T := TX6) (N := 19) hx hb ht inX6 tyX6 tyX6_ok nmX6 hown hK hP hD hS 0 rfl rfl 8 (by decide) (ht _ tw_445) (fun _ h9 => h9) rfl (by decide +kernel) rfl rfl (Nat.le_of_ble_eq_true rfl) dX6_make_34 (fun H_4 locs_4 hP_4 hD_4 hS_4 => ?_)
    have hP_4 : va_P (dC, dI) vwCl [(h0, .inr (9, oX6 v_fault v_faultPlace (.ref h1) (.ref h2) (.ref h3) (.ref h4) (.ref h5) (.ref h6) x_3 (.ref h7) v_depth (.ref h8) (.ref h9) v_at v_items (.ref h10) (.ref h11) (.ref h12) v_partCount)), (h1, .inl (k0, 256, .inl v_sort)), (h2, .inl (k1, 256, .inl v_value)), (h3, .inl (k2, 256, .inl v_low)), (h4, .inl (k3, 256, .inl v_high)), (h5, .inl (k4, 256, .inl v_firstPart)), (h6, .inl (k5, 256, .inl v_nextPart))] H_4 := hP_4
    have hD_4 : va_D A [(h0, .inr (9, oX6 v_fault v_faultPlace (.ref h1) (.ref h2) (.ref h3) (.ref h4) (.ref h5) (.ref h6) x_3 (.ref h7) v_depth (.ref h8) (.ref h9) v_at v_items (.ref h10) (.ref h11) (.ref h12) v_partCount)), (h1, .inl (k0, 256, .inl v_sort)), (h2, .inl (k1, 256, .inl v_value)), (h3, .inl (k2, 256, .inl v_low)), (h4, .inl (k3, 256, .inl v_high)), (h5, .inl (k4, 256, .inl v_firstPart)), (h6, .inl (k5, 256, .inl v_nextPart))] := hD_4
    refine lv_aload_n hx hb dX6_make_37 rfl (lv_at hl_2 1 rfl) ?_
    refine va_get (D := (dC, dI)) (ci := 9) (v := .ref h1) (C := RX6) (T := TX6) (N := 19) hx hb ht inX6 hown hK hP_4 0 rfl rfl 2 (by decide) (ht _ tw_439) (fun _ h9 => h9) rfl dX6_make_38 ?_
    refine lv_iload hx hb dX6_make_41 (lv_at hl_2 0 rfl) ?_
    refine lv_iload_n hx hb dX6_make_43 rfl (lv_at hl_2 2 rfl) ?_
    refine va_iast hx hb hK hP_4 hD_4 hS_4 1 0 rfl rfl (i := v_count) (w.1 c_1 x_3 ex_3).1 dX6_make_44 (fun H_5 locs_5 hP_5 hD_5 hS_5 => ?_)
    obtain ⟨g_5, hg_5⟩ : ∃ g : Nat → Int32, g = upd v_sort v_count.toNatClampNeg p1 := ⟨_, rfl⟩
    have hP_5 : va_P (dC, dI) vwCl [(h0, .inr (9, oX6 v_fault v_faultPlace (.ref h1) (.ref h2) (.ref h3) (.ref h4) (.ref h5) (.ref h6) x_3 (.ref h7) v_depth (.ref h8) (.ref h9) v_at v_items (.ref h10) (.ref h11) (.ref h12) v_partCount)), (h1, .inl (k0, 256, .inl g_5)), (h2, .inl (k1, 256, .inl v_value)), (h3, .inl (k2, 256, .inl v_low)), (h4, .inl (k3, 256, .inl v_high)), (h5, .inl (k4, 256, .inl v_firstPart)), (h6, .inl (k5, 256, .inl v_nextPart))] H_5 := by rw [hg_5]; exact hP_5
    have hD_5 : va_D A [(h0, .inr (9, oX6 v_fault v_faultPlace (.ref h1) (.ref h2) (.ref h3) (.ref h4) (.ref h5) (.ref h6) x_3 (.ref h7) v_depth (.ref h8) (.ref h9) v_at v_items (.ref h10) (.ref h11) (.ref h12) v_partCount)), (h1, .inl (k0, 256, .inl g_5)), (h2, .inl (k1, 256, .inl v_value)), (h3, .inl (k2, 256, .inl v_low)), (h4, .inl (k3, 256, .inl v_high)), (h5, .inl (k4, 256, .inl v_firstPart)), (h6, .inl (k5, 256, .inl v_nextPart))] := by rw [hg_5]; exact hD_5
    refine lv_aload_n hx hb dX6_make_45 rfl (lv_at hl_2 1 rfl) ?_
    refine va_get (D := (dC, dI)) (ci := 9) (v := .ref h2) (C := RX6) (T := TX6) (N := 19) hx hb ht inX6 hown hK hP_5 0 rfl rfl 3 (by decide) (ht _ tw_440) (fun _ h9 => h9) rfl dX6_make_46 ?_
    refine lv_iload hx hb dX6_make_49 (lv_at hl_2 0 rfl) ?_
    refine lv_iload_n hx hb dX6_make_51 rfl (lv_at hl_2 3 rfl) ?_
    refine va_iast hx hb hK hP_5 hD_5 hS_5 2 1 rfl rfl (i := v_count) (((w.1 c_1 x_3 ex_3).2) g_5 hg_5).1 dX6_make_52 (fun H_6 locs_6 hP_6 hD_6 hS_6 => ?_)
    obtain ⟨g_6, hg_6⟩ : ∃ g : Nat → Int32, g = upd v_value v_count.toNatClampNeg p2 := ⟨_, rfl⟩
    have hP_6 : va_P (dC, dI) vwCl [(h0, .inr (9, oX6 v_fault v_faultPlace (.ref h1) (.ref h2) (.ref h3) (.ref h4) (.ref h5) (.ref h6) x_3 (.ref h7) v_depth (.ref h8) (.ref h9) v_at v_items (.ref h10) (.ref h11) (.ref h12) v_partCount)), (h1, .inl (k0, 256, .inl g_5)), (h2, .inl (k1, 256, .inl g_6)), (h3, .inl (k2, 256, .inl v_low)), (h4, .inl (k3, 256, .inl v_high)), (h5, .inl (k4, 256, .inl v_firstPart)), (h6, .inl (k5, 256, .inl v_nextPart))] H_6 := by rw [hg_6]; exact hP_6
    have hD_6 : va_D A [(h0, .inr (9, oX6 v_fault v_faultPlace (.ref h1) (.ref h2) (.ref h3) (.ref h4) (.ref h5) (.ref h6) x_3 (.ref h7) v_depth (.ref h8) (.ref h9) v_at v_items (.ref h10) (.ref h11) (.ref h12) v_partCount)), (h1, .inl (k0, 256, .inl g_5)), (h2, .inl (k1, 256, .inl g_6)), (h3, .inl (k2, 256, .inl v_low)), (h4, .inl (k3, 256, .inl v_high)), (h5, .inl (k4, 256, .inl v_firstPart)), (h6, .inl (k5, 256, .inl v_nextPart))] := by rw [hg_6]; exact hD_6
    refine lv_aload_n hx hb dX6_make_53 rfl (lv_at hl_2 1 rfl) ?_
    refine va_get (D := (dC, dI)) (ci := 9) (v := .ref h3) (C := RX6) (T := TX6) (N := 19) hx hb ht inX6 hown hK hP_6 0 rfl rfl 4 (by decide) (ht _ tw_441) (fun _ h9 => h9) rfl dX6_make_54 ?_
    refine lv_iload hx hb dX6_make_57 (lv_at hl_2 0 rfl) ?_
    refine lv_iload_n hx hb dX6_make_59 rfl (lv_at hl_2 4 rfl) ?_
    have w_7 := ((((w.1 c_1 x_3 ex_3).2) g_5 hg_5).2) g_6 hg_6
    refine va_iast hx hb hK hP_6 hD_6 hS_6 3 2 rfl rfl (i := v_count) w_7.1 dX6_make_60 (fun H_8 locs_8 hP_8 hD_8 hS_8 => ?_)
    obtain ⟨g_8, hg_8⟩ : ∃ g : Nat → Int32, g = upd v_low v_count.toNatClampNeg p3 := ⟨_, rfl⟩
    have hP_8 : va_P (dC, dI) vwCl [(h0, .inr (9, oX6 v_fault v_faultPlace (.ref h1) (.ref h2) (.ref h3) (.ref h4) (.ref h5) (.ref h6) x_3 (.ref h7) v_depth (.ref h8) (.ref h9) v_at v_items (.ref h10) (.ref h11) (.ref h12) v_partCount)), (h1, .inl (k0, 256, .inl g_5)), (h2, .inl (k1, 256, .inl g_6)), (h3, .inl (k2, 256, .inl g_8)), (h4, .inl (k3, 256, .inl v_high)), (h5, .inl (k4, 256, .inl v_firstPart)), (h6, .inl (k5, 256, .inl v_nextPart))] H_8 := by rw [hg_8]; exact hP_8
    have hD_8 : va_D A [(h0, .inr (9, oX6 v_fault v_faultPlace (.ref h1) (.ref h2) (.ref h3) (.ref h4) (.ref h5) (.ref h6) x_3 (.ref h7) v_depth (.ref h8) (.ref h9) v_at v_items (.ref h10) (.ref h11) (.ref h12) v_partCount)), (h1, .inl (k0, 256, .inl g_5)), (h2, .inl (k1, 256, .inl g_6)), (h3, .inl (k2, 256, .inl g_8)), (h4, .inl (k3, 256, .inl v_high)), (h5, .inl (k4, 256, .inl v_firstPart)), (h6, .inl (k5, 256, .inl v_nextPart))] := by rw [hg_8]; exact hD_8
    refine lv_aload_n hx hb dX6_make_61 rfl (lv_at hl_2 1 rfl) ?_
    refine va_get (D := (dC, dI)) (ci := 9) (v := .ref h4) (C := RX6) (T := TX6) (N := 19) hx hb ht inX6 hown hK hP_8 0 rfl rfl 5 (by decide) (ht _ tw_442) (fun _ h9 => h9) rfl dX6_make_62 ?_
    refine lv_iload hx hb dX6_make_65 (lv_at hl_2 0 rfl) ?_
    refine lv_iload hx hb dX6_make_67 (lv_at hl_2 5 rfl) ?_
    refine va_iast hx hb hK hP_8 hD_8 hS_8 4 3 rfl rfl (i := v_count) (w_7.2 g_8 hg_8).1 dX6_make_69 (fun H_9 locs_9 hP_9 hD_9 hS_9 => ?_)
    obtain ⟨g_9, hg_9⟩ : ∃ g : Nat → Int32, g = upd v_high v_count.toNatClampNeg p4 := ⟨_, rfl⟩
    have hP_9 : va_P (dC, dI) vwCl [(h0, .inr (9, oX6 v_fault v_faultPlace (.ref h1) (.ref h2) (.ref h3) (.ref h4) (.ref h5) (.ref h6) x_3 (.ref h7) v_depth (.ref h8) (.ref h9) v_at v_items (.ref h10) (.ref h11) (.ref h12) v_partCount)), (h1, .inl (k0, 256, .inl g_5)), (h2, .inl (k1, 256, .inl g_6)), (h3, .inl (k2, 256, .inl g_8)), (h4, .inl (k3, 256, .inl g_9)), (h5, .inl (k4, 256, .inl v_firstPart)), (h6, .inl (k5, 256, .inl v_nextPart))] H_9 := by rw [hg_9]; exact hP_9
    have hD_9 : va_D A [(h0, .inr (9, oX6 v_fault v_faultPlace (.ref h1) (.ref h2) (.ref h3) (.ref h4) (.ref h5) (.ref h6) x_3 (.ref h7) v_depth (.ref h8) (.ref h9) v_at v_items (.ref h10) (.ref h11) (.ref h12) v_partCount)), (h1, .inl (k0, 256, .inl g_5)), (h2, .inl (k1, 256, .inl g_6)), (h3, .inl (k2, 256, .inl g_8)), (h4, .inl (k3, 256, .inl g_9)), (h5, .inl (k4, 256, .inl v_firstPart)), (h6, .inl (k5, 256, .inl v_nextPart))] := by rw [hg_9]; exact hD_9
    refine lv_aload_n hx hb dX6_make_70 rfl (lv_at hl_2 1 rfl) ?_
    refine va_get (D := (dC, dI)) (ci := 9) (v := .ref h5) (C := RX6) (T := TX6) (N := 19) hx hb ht inX6 hown hK hP_9 0 rfl rfl 6 (by decide) (ht _ tw_443) (fun _ h9 => h9) rfl dX6_make_71 ?_
    refine lv_iload hx hb dX6_make_74 (lv_at hl_2 0 rfl) ?_
    refine lv_iconst (v := (-1)) hx hb dX6_make_76 (by decide) ?_
    refine va_iast hx hb hK hP_9 hD_9 hS_9 5 4 rfl rfl (i := v_count) (((w_7.2 g_8 hg_8).2) g_9 hg_9).1 dX6_make_77 (fun H_10 locs_10 hP_10 hD_10 hS_10 => ?_)
    obtain ⟨g_10, hg_10⟩ : ∃ g : Nat → Int32, g = upd v_firstPart v_count.toNatClampNeg (-1) := ⟨_, rfl⟩
    have hP_10 : va_P (dC, dI) vwCl [(h0, .inr (9, oX6 v_fault v_faultPlace (.ref h1) (.ref h2) (.ref h3) (.ref h4) (.ref h5) (.ref h6) x_3 (.ref h7) v_depth (.ref h8) (.ref h9) v_at v_items (.ref h10) (.ref h11) (.ref h12) v_partCount)), (h1, .inl (k0, 256, .inl g_5)), (h2, .inl (k1, 256, .inl g_6)), (h3, .inl (k2, 256, .inl g_8)), (h4, .inl (k3, 256, .inl g_9)), (h5, .inl (k4, 256, .inl g_10)), (h6, .inl (k5, 256, .inl v_nextPart))] H_10 := by rw [hg_10]; exact hP_10
    have hD_10 : va_D A [(h0, .inr (9, oX6 v_fault v_faultPlace (.ref h1) (.ref h2) (.ref h3) (.ref h4) (.ref h5) (.ref h6) x_3 (.ref h7) v_depth (.ref h8) (.ref h9) v_at v_items (.ref h10) (.ref h11) (.ref h12) v_partCount)), (h1, .inl (k0, 256, .inl g_5)), (h2, .inl (k1, 256, .inl g_6)), (h3, .inl (k2, 256, .inl g_8)), (h4, .inl (k3, 256, .inl g_9)), (h5, .inl (k4, 256, .inl g_10)), (h6, .inl (k5, 256, .inl v_nextPart))] := by rw [hg_10]; exact hD_10
    refine lv_aload_n hx hb dX6_make_78 rfl (lv_at hl_2 1 rfl) ?_
    refine va_get (D := (dC, dI)) (ci := 9) (v := .ref h6) (C := RX6) (T := TX6) (N := 19) hx hb ht inX6 hown hK hP_10 0 rfl rfl 7 (by decide) (ht _ tw_444) (fun _ h9 => h9) rfl dX6_make_79 ?_
    refine lv_iload hx hb dX6_make_82 (lv_at hl_2 0 rfl) ?_
    refine lv_iconst (v := (-1)) hx hb dX6_make_84 (by decide) ?_
    have w_11 := ((((w_7.2 g_8 hg_8).2) g_9 hg_9).2) g_10 hg_10
    refine va_iast hx hb hK hP_10 hD_10 hS_10 6 5 rfl rfl (i := v_count) w_11.1 dX6_make_85 (fun H_12 locs_12 hP_12 hD_12 hS_12 => ?_)
    obtain ⟨g_12, hg_12⟩ : ∃ g : Nat → Int32, g = upd v_nextPart v_count.toNatClampNeg (-1) := ⟨_, rfl⟩
    have hP_12 : va_P (dC, dI) vwCl [(h0, .inr (9, oX6 v_fault v_faultPlace (.ref h1) (.ref h2) (.ref h3) (.ref h4) (.ref h5) (.ref h6) x_3 (.ref h7) v_depth (.ref h8) (.ref h9) v_at v_items (.ref h10) (.ref h11) (.ref h12) v_partCount)), (h1, .inl (k0, 256, .inl g_5)), (h2, .inl (k1, 256, .inl g_6)), (h3, .inl (k2, 256, .inl g_8)), (h4, .inl (k3, 256, .inl g_9)), (h5, .inl (k4, 256, .inl g_10)), (h6, .inl (k5, 256, .inl g_12))] H_12 := by rw [hg_12]; exact hP_12
    have hD_12 : va_D A [(h0, .inr (9, oX6 v_fault v_faultPlace (.ref h1) (.ref h2) (.ref h3) (.ref h4) (.ref h5) (.ref h6) x_3 (.ref h7) v_depth (.ref h8) (.ref h9) v_at v_items (.ref h10) (.ref h11) (.ref h12) v_partCount)), (h1, .inl (k0, 256, .inl g_5)), (h2, .inl (k1, 256, .inl g_6)), (h3, .inl (k2, 256, .inl g_8)), (h4, .inl (k3, 256, .inl g_9)), (h5, .inl (k4, 256, .inl g_10)), (h6, .inl (k5, 256, .inl g_12))] := by rw [hg_12]; exact hD_12
    refine lv_iload hx hb dX6_make_86 (lv_at hl_2 0 rfl) ?_
    rw [hQQ]
    exact W.iret (v := v_count) hx hb hr (fun t9 ht9 hW9 => ⟨⟨v_count, v_count, rfl, rfl, ⟨v_fault, v_faultPlace, x_3, g_5, g_6, g_8, g_9, g_10, g_12, w_11.2 g_12 hg_12, by rw [ht9]; exact hP_12, hD_12⟩⟩, hS_12.F ht9⟩) hS_12.2.2 dX6_make_88
  · refine lv_aload_n hx hb dX6_make_10 rfl (lv_at hl 0 rfl) ?_
    refine lv_iconst (v := 2) hx hb dX6_make_11 (by decide) ?_
    refine lv_aload_n hx hb dX6_make_12 rfl (lv_at hl 0 rfl) ?_
    refine va_get (D := (dC, dI)) (ci := 9) (v := .int v_at) (C := RX6) (T := TX6) (N := 19) hx hb ht inX6 hown hK hP 0 rfl rfl 13 (by decide) (ht _ tw_450) (fun _ h9 => h9) rfl dX6_make_13 ?_
    have hPc_13 := hP.sub (ws' := [(h0, .inr (9, oX6 v_fault v_faultPlace (.ref h1) (.ref h2) (.ref h3) (.ref h4) (.ref h5) (.ref h6) v_count (.ref h7) v_depth (.ref h8) (.ref h9) v_at v_items (.ref h10) (.ref h11) (.ref h12) v_partCount))]) [0] rfl
    have hDc_13 := hD.sub (ws' := [(h0, .inr (9, oX6 v_fault v_faultPlace (.ref h1) (.ref h2) (.ref h3) (.ref h4) (.ref h5) (.ref h6) v_count (.ref h7) v_depth (.ref h8) (.ref h9) v_at v_items (.ref h10) (.ref h11) (.ref h12) v_partCount))]) [0] (by decide) rfl
    have hKc_13 := hK.sub (tys' := []) [] rfl
    have hFc_13 := va_free (wc := [(h0, .inr (9, oX6 v_fault v_faultPlace (.ref h1) (.ref h2) (.ref h3) (.ref h4) (.ref h5) (.ref h6) v_count (.ref h7) v_depth (.ref h8) (.ref h9) v_at v_items (.ref h10) (.ref h11) (.ref h12) v_partCount))]) hD hS hA [0] rfl
    refine va_callv (va_runV (As := [.int 2, .int v_at]) (rest := []) ⟨hx, hb, hml, hown, ht⟩ (mt_X6_blame l dC dI h0 h1 h2 h3 h4 h5 h6 h7 h8 h9 h10 h11 h12 2 v_at v_fault v_faultPlace v_count v_depth v_at v_items v_partCount _ (w.2 c_1) s.heap.size) (cwV 2 ht (goodV tw_931 tw_933 tw_8 tw_239 gw_X6_blame) rfl rfl rfl (by decide +kernel) ⟨Nat.le_of_ble_eq_true rfl, Nat.le_of_ble_eq_true rfl⟩) ⟨fun a U g mk q => by obtain ⟨q0, q1, qP, qK, qD⟩ := q; exact ⟨q0, q1, qP, va_K.moved (u := U) (U := U.calling g mk a) (Vm.Alike.refl U.vm) qK, qD⟩, va_recv hKc_13 hPc_13 (ci := 9) (q0 := 0) rfl rfl, fun U hU hW => ⟨rfl, by rw [hU], by rw [hU]; exact hPc_13, va_K.moved hW.alike hKc_13, hDc_13.weaken (fun _ _ _ _ => trivial)⟩⟩ rfl rfl hl.1 rfl (lv_room (Nat.le_of_ble_eq_true rfl)) dX6_make_16 ⟨Nat.le_of_ble_eq_true rfl, Nat.le_of_ble_eq_true rfl⟩) hS (fun q _ h => hFc_13 q h) hFc_13 (fun u_13 t_13 H_13 locs_13 ht_13 hvm_13 hw_13 hB_13 hz_13 hk_13 hS_13 => ?_)
    subst hw_13
    obtain ⟨r_13_0, r_13_1, w_13, hP1_13, hD1_13⟩ := hB_13
    rw [ht_13] at hP1_13
    obtain ⟨hP_13, hD_13⟩ := va_join (wr := [(h1, .inl (k0, 256, .inl v_sort)), (h2, .inl (k1, 256, .inl v_value)), (h3, .inl (k2, 256, .inl v_low)), (h4, .inl (k3, 256, .inl v_high)), (h5, .inl (k4, 256, .inl v_firstPart)), (h6, .inl (k5, 256, .inl v_nextPart))]) (w1 := [(h0, .inr (9, oX6 r_13_0 r_13_1 (.ref h1) (.ref h2) (.ref h3) (.ref h4) (.ref h5) (.ref h6) v_count (.ref h7) v_depth (.ref h8) (.ref h9) v_at v_items (.ref h10) (.ref h11) (.ref h12) v_partCount))]) hP hD [0] [1, 2, 3, 4, 5, 6] rfl rfl (by decide) (by decide) hk_13 hFc_13 hP1_13 hD1_13
    have hP_13 := hP_13.sub (ws' := [(h0, .inr (9, oX6 r_13_0 r_13_1 (.ref h1) (.ref h2) (.ref h3) (.ref h4) (.ref h5) (.ref h6) v_count (.ref h7) v_depth (.ref h8) (.ref h9) v_at v_items (.ref h10) (.ref h11) (.ref h12) v_partCount)), (h1, .inl (k0, 256, .inl v_sort)), (h2, .inl (k1, 256, .inl v_value)), (h3, .inl (k2, 256, .inl v_low)), (h4, .inl (k3, 256, .inl v_high)), (h5, .inl (k4, 256, .inl v_firstPart)), (h6, .inl (k5, 256, .inl v_nextPart))]) [6, 0, 1, 2, 3, 4, 5] rfl
    have hD_13 := hD_13.sub (ws' := [(h0, .inr (9, oX6 r_13_0 r_13_1 (.ref h1) (.ref h2) (.ref h3) (.ref h4) (.ref h5) (.ref h6) v_count (.ref h7) v_depth (.ref h8) (.ref h9) v_at v_items (.ref h10) (.ref h11) (.ref h12) v_partCount)), (h1, .inl (k0, 256, .inl v_sort)), (h2, .inl (k1, 256, .inl v_value)), (h3, .inl (k2, 256, .inl v_low)), (h4, .inl (k3, 256, .inl v_high)), (h5, .inl (k4, 256, .inl v_firstPart)), (h6, .inl (k5, 256, .inl v_nextPart))]) [6, 0, 1, 2, 3, 4, 5] (by decide) rfl
    clear hPc_13 hDc_13 hKc_13 hFc_13 hP1_13 hD1_13 hk_13 hz_13
    refine lv_iconst (v := 0) hx hb dX6_make_19 (by decide) ?_
    rw [hQQ]
    exact W.iret (v := 0) hx hb hr (fun t9 ht9 hW9 => ⟨⟨0, 0, rfl, rfl, ⟨r_13_0, r_13_1, v_count, v_sort, v_value, v_low, v_high, v_firstPart, v_nextPart, w_13, by rw [ht9]; exact hP_13, hD_13⟩⟩, hS_13.F ht9⟩) hS_13.2.2 dX6_make_20
def w_X6_lookOfMark (p0 : Int32) (Q : Int32 → Prop) : Prop :=
  ((p0 = 33) → Q 1) ∧ ((p0 = 60) → Q 2) ∧ ((p0 = 126) → Q 3) ∧ ((¬ p0 = 33) → (¬ p0 = 60) → (¬ p0 = 126) → Q 0)
set_option maxHeartbeats 4000000 in
set_option maxRecDepth 100000 in
theorem mt_X6_lookOfMark (l : Launch) (dC : Nat → ClassId) (dI : Nat → Nat → Nat) (p0 : Int32) (Q : Int32 → Prop) (w : w_X6_lookOfMark p0 Q) (sz : Nat) : Met l yX6_lookOfMark (WS yX6_lookOfMark cX6_lookOfMark 1 (some (.int))) ({ frames := 0, cells := 0, slots := 0, locals := 0 } : Room) (va_Pc [.int p0] (fun U => U.heap.size = sz ∧ va_P (dC, dI) vwCl [] U.heap ∧ va_K (dC, dI) vwCl [] U ∧ va_D (fun _ => True) [])) (va_Qi (fun (r u : Int32) => r = u) (fun (u : Int32) (t : State) => (Q u) ∧ va_P (dC, dI) vwCl [] t.heap ∧ va_D (va_A [] sz) []) (va_A [] sz)) 0 0 (va_A [] sz) := by
  refine Met.ofW (cc := cX6_lookOfMark) (maxL := 1) (ret := (some (.int))) (by decide) rfl ?_
  intro p e s m args below meth c s₁ B hml hv
  obtain ⟨rfl, hsz, hP, hK, hD0⟩ := hv
  have hx := B.exec
  have hb := B.bytes
  have hr := B.returns
  have hts := atoms_spec (ws := WS yX6_lookOfMark cX6_lookOfMark 1 (some (.int))) B.pre
  have ht : ∀ w ∈ TW, w.before _ s = true := fun w h => hts w (List.mem_cons_of_mem _ h)
  have hown : s.vm.findClass "PatternWorkshop$Reader" = some m.cls := findClass_of_methodNamed B.named
  have hlocks := B.notSynchronized
  subst hsz
  have hD := hD0.self (sz := s.heap.size)
  generalize hAe : va_A [] s.heap.size = A at hD ⊢
  have hA : ∀ q : Nat, s.heap.size ≤ q → A q := fun q h => by rw [← hAe]; exact Or.inr h
  have hS : va_S A s.heap s.heap [] := va_S.rf
  have hP : va_P (dC, dI) vwCl [] s.heap := hP
  have hl := lv_entry ([.int p0]) (n := 1) (Nat.le_of_ble_eq_true rfl)
  rw [lg_entry_eq]
  generalize (lg_sl ([.int p0]) ++ List.replicate (1 - (lg_sl ([.int p0])).length) Slot.unset).toArray = ls at hl ⊢
  have hl : lv_has ls 1 [(0, .int p0)] := hl
  clear hD0
  obtain ⟨QQ, hQQ⟩ : ∃ QQ, QQ = MQ below (va_Qi (fun (r u : Int32) => r = u) (fun (u : Int32) (t : State) => (Q u) ∧ va_P (dC, dI) vwCl [] t.heap ∧ va_D A []) A) ([.int p0]).toArray s 0 0 A := ⟨_, rfl⟩
  show W p l e ({ frames := 0, cells := 0, slots := 0, locals := 0 } : Room) s m ([.int p0]).toArray below meth c s.heap [] 0 0 (MQ below (va_Qi (fun (r u : Int32) => r = u) (fun (u : Int32) (t : State) => (Q u) ∧ va_P (dC, dI) vwCl [] t.heap ∧ va_D A []) A) ([.int p0]).toArray s 0 0 A) (F0 m 0 ls [])
  rw [← hQQ]
  unfold w_X6_lookOfMark at w
  refine lv_iload_n hx hb dX6_lookOfMark_0 rfl (lv_at hl 0 rfl) ?_
  by_cases c_1_0 : p0 = 33
  · refine lv_lookup (tgt := 36) (off := 35) hx hb dX6_lookOfMark_1 (by decide) (by rw [c_1_0]; decide) (by decide) ?_
    refine lv_iconst (v := 1) hx hb dX6_lookOfMark_36 (by decide) ?_
    rw [hQQ]
    exact W.iret (v := 1) hx hb hr (fun t9 ht9 hW9 => ⟨⟨1, 1, rfl, rfl, ⟨w.1 c_1_0, by rw [ht9]; exact hP, hD⟩⟩, hS.F ht9⟩) hS.2.2 dX6_lookOfMark_37
  by_cases c_1_1 : p0 = 60
  · refine lv_lookup (tgt := 38) (off := 37) hx hb dX6_lookOfMark_1 (by decide) (by rw [c_1_1]; decide) (by decide) ?_
    refine lv_iconst (v := 2) hx hb dX6_lookOfMark_38 (by decide) ?_
    rw [hQQ]
    exact W.iret (v := 2) hx hb hr (fun t9 ht9 hW9 => ⟨⟨2, 2, rfl, rfl, ⟨w.2.1 c_1_1, by rw [ht9]; exact hP, hD⟩⟩, hS.F ht9⟩) hS.2.2 dX6_lookOfMark_39
  by_cases c_1_2 : p0 = 126
  · refine lv_lookup (tgt := 40) (off := 39) hx hb dX6_lookOfMark_1 (by decide) (by rw [c_1_2]; decide) (by decide) ?_
    refine lv_iconst (v := 3) hx hb dX6_lookOfMark_40 (by decide) ?_
    rw [hQQ]
    exact W.iret (v := 3) hx hb hr (fun t9 ht9 hW9 => ⟨⟨3, 3, rfl, rfl, ⟨w.2.2.1 c_1_2, by rw [ht9]; exact hP, hD⟩⟩, hS.F ht9⟩) hS.2.2 dX6_lookOfMark_41
  refine lv_lookup (tgt := 42) (off := 41) hx hb dX6_lookOfMark_1 (by decide) ?_ (by decide) ?_
  · apply Op.lookupswitch.offset_none
    simp only [List.find?_eq_none]
    intro q9 h9
    simp only [List.mem_cons, List.not_mem_nil, or_false] at h9
    rcases h9 with rfl | rfl | rfl
    · exact fun h8 => c_1_0 (Int32.toInt_inj.mp (by simpa using (beq_iff_eq.mp h8).symm))
    · exact fun h8 => c_1_1 (Int32.toInt_inj.mp (by simpa using (beq_iff_eq.mp h8).symm))
    · exact fun h8 => c_1_2 (Int32.toInt_inj.mp (by simpa using (beq_iff_eq.mp h8).symm))
  · refine lv_iconst (v := 0) hx hb dX6_lookOfMark_42 (by decide) ?_
    rw [hQQ]
    exact W.iret (v := 0) hx hb hr (fun t9 ht9 hW9 => ⟨⟨0, 0, rfl, rfl, ⟨w.2.2.2 c_1_0 c_1_1 c_1_2, by rw [ht9]; exact hP, hD⟩⟩, hS.F ht9⟩) hS.2.2 dX6_lookOfMark_43
def w_X6_sortOfMark_70 (Q : Int32 → Prop) : Prop :=
  Q 9
def w_X6_sortOfMark (p0 : Int32) (Q : Int32 → Prop) : Prop :=
  ((p0 = 33) → w_X6_sortOfMark_70 Q) ∧ ((p0 = 37) → Q 11) ∧ ((p0 = 42) → Q 10) ∧ ((p0 = 58) → Q (-1)) ∧ ((p0 = 60) → w_X6_sortOfMark_70 Q) ∧ ((p0 = 61) → w_X6_sortOfMark_70 Q) ∧ ((p0 = 126) → w_X6_sortOfMark_70 Q) ∧ ((¬ p0 = 33) → (¬ p0 = 37) → (¬ p0 = 42) → (¬ p0 = 58) → (¬ p0 = 60) → (¬ p0 = 61) → (¬ p0 = 126) → Q 8)
set_option maxHeartbeats 4000000 in
set_option maxRecDepth 100000 in
theorem mt_X6_sortOfMark (l : Launch) (dC : Nat → ClassId) (dI : Nat → Nat → Nat) (p0 : Int32) (Q : Int32 → Prop) (w : w_X6_sortOfMark p0 Q) (sz : Nat) : Met l yX6_sortOfMark (WS yX6_sortOfMark cX6_sortOfMark 1 (some (.int))) ({ frames := 0, cells := 0, slots := 0, locals := 0 } : Room) (va_Pc [.int p0] (fun U => U.heap.size = sz ∧ va_P (dC, dI) vwCl [] U.heap ∧ va_K (dC, dI) vwCl [] U ∧ va_D (fun _ => True) [])) (va_Qi (fun (r u : Int32) => r = u) (fun (u : Int32) (t : State) => (Q u) ∧ va_P (dC, dI) vwCl [] t.heap ∧ va_D (va_A [] sz) []) (va_A [] sz)) 0 0 (va_A [] sz) := by
  refine Met.ofW (cc := cX6_sortOfMark) (maxL := 1) (ret := (some (.int))) (by decide) rfl ?_
  intro p e s m args below meth c s₁ B hml hv
  obtain ⟨rfl, hsz, hP, hK, hD0⟩ := hv
  have hx := B.exec
  have hb := B.bytes
  have hr := B.returns
  have hts := atoms_spec (ws := WS yX6_sortOfMark cX6_sortOfMark 1 (some (.int))) B.pre
  have ht : ∀ w ∈ TW, w.before _ s = true := fun w h => hts w (List.mem_cons_of_mem _ h)
  have hown : s.vm.findClass "PatternWorkshop$Reader" = some m.cls := findClass_of_methodNamed B.named
  have hlocks := B.notSynchronized
  subst hsz
  have hD := hD0.self (sz := s.heap.size)
  generalize hAe : va_A [] s.heap.size = A at hD ⊢
  have hA : ∀ q : Nat, s.heap.size ≤ q → A q := fun q h => by rw [← hAe]; exact Or.inr h
  have hS : va_S A s.heap s.heap [] := va_S.rf
  have hP : va_P (dC, dI) vwCl [] s.heap := hP
  have hl := lv_entry ([.int p0]) (n := 1) (Nat.le_of_ble_eq_true rfl)
  rw [lg_entry_eq]
  generalize (lg_sl ([.int p0]) ++ List.replicate (1 - (lg_sl ([.int p0])).length) Slot.unset).toArray = ls at hl ⊢
  have hl : lv_has ls 1 [(0, .int p0)] := hl
  clear hD0
  obtain ⟨QQ, hQQ⟩ : ∃ QQ, QQ = MQ below (va_Qi (fun (r u : Int32) => r = u) (fun (u : Int32) (t : State) => (Q u) ∧ va_P (dC, dI) vwCl [] t.heap ∧ va_D A []) A) ([.int p0]).toArray s 0 0 A := ⟨_, rfl⟩
  show W p l e ({ frames := 0, cells := 0, slots := 0, locals := 0 } : Room) s m ([.int p0]).toArray below meth c s.heap [] 0 0 (MQ below (va_Qi (fun (r u : Int32) => r = u) (fun (u : Int32) (t : State) => (Q u) ∧ va_P (dC, dI) vwCl [] t.heap ∧ va_D A []) A) ([.int p0]).toArray s 0 0 A) (F0 m 0 ls [])
  rw [← hQQ]
  unfold w_X6_sortOfMark at w
  refine lv_iload_n hx hb dX6_sortOfMark_0 rfl (lv_at hl 0 rfl) ?_
  have k_70 : ∀ (H_b70 : Heap) (locs_b70 : List Loc) (ls_b70 : Array Slot), w_X6_sortOfMark_70 Q → va_P (dC, dI) vwCl [] H_b70 → va_D A [] → va_S A s.heap H_b70 locs_b70 → lv_has ls_b70 1 [] → W p l e ({ frames := 0, cells := 0, slots := 0, locals := 0 } : Room) s m ([.int p0]).toArray below meth c H_b70 locs_b70 0 0 QQ (F0 m 70 ls_b70 []) := by
    intro  H_b70 locs_b70 ls_b70 w_b70 hP_b70 hD_b70 hS_b70 hl_b70
    unfold w_X6_sortOfMark_70 at w_b70
    refine lv_bipush (v := 9) hx hb dX6_sortOfMark_70 (by decide) ?_
    rw [hQQ]
    exact W.iret (v := 9) hx hb hr (fun t9 ht9 hW9 => ⟨⟨9, 9, rfl, rfl, ⟨w_b70, by rw [ht9]; exact hP_b70, hD_b70⟩⟩, hS_b70.F ht9⟩) hS_b70.2.2 dX6_sortOfMark_72
  by_cases c_1_0 : p0 = 33
  · refine lv_lookup (tgt := 70) (off := 69) hx hb dX6_sortOfMark_1 (by decide) (by rw [c_1_0]; decide) (by decide) ?_
    exact k_70  _ _ _ (w.1 c_1_0) hP hD hS (lv_sub hl [] rfl)
  by_cases c_1_1 : p0 = 37
  · refine lv_lookup (tgt := 76) (off := 75) hx hb dX6_sortOfMark_1 (by decide) (by rw [c_1_1]; decide) (by decide) ?_
    refine lv_bipush (v := 11) hx hb dX6_sortOfMark_76 (by decide) ?_
    rw [hQQ]
    exact W.iret (v := 11) hx hb hr (fun t9 ht9 hW9 => ⟨⟨11, 11, rfl, rfl, ⟨w.2.1 c_1_1, by rw [ht9]; exact hP, hD⟩⟩, hS.F ht9⟩) hS.2.2 dX6_sortOfMark_78
  by_cases c_1_2 : p0 = 42
  · refine lv_lookup (tgt := 73) (off := 72) hx hb dX6_sortOfMark_1 (by decide) (by rw [c_1_2]; decide) (by decide) ?_
    refine lv_bipush (v := 10) hx hb dX6_sortOfMark_73 (by decide) ?_
    rw [hQQ]
    exact W.iret (v := 10) hx hb hr (fun t9 ht9 hW9 => ⟨⟨10, 10, rfl, rfl, ⟨w.2.2.1 c_1_2, by rw [ht9]; exact hP, hD⟩⟩, hS.F ht9⟩) hS.2.2 dX6_sortOfMark_75
  by_cases c_1_3 : p0 = 58
  · refine lv_lookup (tgt := 68) (off := 67) hx hb dX6_sortOfMark_1 (by decide) (by rw [c_1_3]; decide) (by decide) ?_
    refine lv_iconst (v := (-1)) hx hb dX6_sortOfMark_68 (by decide) ?_
    rw [hQQ]
    exact W.iret (v := (-1)) hx hb hr (fun t9 ht9 hW9 => ⟨⟨(-1), (-1), rfl, rfl, ⟨w.2.2.2.1 c_1_3, by rw [ht9]; exact hP, hD⟩⟩, hS.F ht9⟩) hS.2.2 dX6_sortOfMark_69
  by_cases c_1_4 : p0 = 60
  · refine lv_lookup (tgt := 70) (off := 69) hx hb dX6_sortOfMark_1 (by decide) (by rw [c_1_4]; decide) (by decide) ?_
    exact k_70  _ _ _ (w.2.2.2.2.1 c_1_4) hP hD hS (lv_sub hl [] rfl)
  by_cases c_1_5 : p0 = 61
  · refine lv_lookup (tgt := 70) (off := 69) hx hb dX6_sortOfMark_1 (by decide) (by rw [c_1_5]; decide) (by decide) ?_
    exact k_70  _ _ _ (w.2.2.2.2.2.1 c_1_5) hP hD hS (lv_sub hl [] rfl)
  by_cases c_1_6 : p0 = 126
  · refine lv_lookup (tgt := 70) (off := 69) hx hb dX6_sortOfMark_1 (by decide) (by rw [c_1_6]; decide) (by decide) ?_
    exact k_70  _ _ _ (w.2.2.2.2.2.2.1 c_1_6) hP hD hS (lv_sub hl [] rfl)
  refine lv_lookup (tgt := 79) (off := 78) hx hb dX6_sortOfMark_1 (by decide) ?_ (by decide) ?_
  · apply Op.lookupswitch.offset_none
    simp only [List.find?_eq_none]
    intro q9 h9
    simp only [List.mem_cons, List.not_mem_nil, or_false] at h9
    rcases h9 with rfl | rfl | rfl | rfl | rfl | rfl | rfl
    · exact fun h8 => c_1_0 (Int32.toInt_inj.mp (by simpa using (beq_iff_eq.mp h8).symm))
    · exact fun h8 => c_1_1 (Int32.toInt_inj.mp (by simpa using (beq_iff_eq.mp h8).symm))
    · exact fun h8 => c_1_2 (Int32.toInt_inj.mp (by simpa using (beq_iff_eq.mp h8).symm))
    · exact fun h8 => c_1_3 (Int32.toInt_inj.mp (by simpa using (beq_iff_eq.mp h8).symm))
    · exact fun h8 => c_1_4 (Int32.toInt_inj.mp (by simpa using (beq_iff_eq.mp h8).symm))
    · exact fun h8 => c_1_5 (Int32.toInt_inj.mp (by simpa using (beq_iff_eq.mp h8).symm))
    · exact fun h8 => c_1_6 (Int32.toInt_inj.mp (by simpa using (beq_iff_eq.mp h8).symm))
  · refine lv_bipush (v := 8) hx hb dX6_sortOfMark_79 (by decide) ?_
    have w_2 := w.2.2.2.2.2.2.2 c_1_0 c_1_1 c_1_2 c_1_3 c_1_4 c_1_5 c_1_6
    rw [hQQ]
    exact W.iret (v := 8) hx hb hr (fun t9 ht9 hW9 => ⟨⟨8, 8, rfl, rfl, ⟨w_2, by rw [ht9]; exact hP, hD⟩⟩, hS.F ht9⟩) hS.2.2 dX6_sortOfMark_81
def w_X6_makeRound (p1 : Int32) (p2 : Int32) (p3 : Int32) (p4 : Int32) (p5 : Int32) (v_fault : Int32) (v_faultPlace : Int32) (v_count : Int32) (v_at : Int32) (v_sort : Nat → Int32) (v_value : Nat → Int32) (v_low : Nat → Int32) (v_high : Nat → Int32) (v_firstPart : Nat → Int32) (v_nextPart : Nat → Int32) (Q : Int32 → Int32 → Int32 → Int32 → (Nat → Int32) → (Nat → Int32) → (Nat → Int32) → (Nat → Int32) → (Nat → Int32) → (Nat → Int32) → Prop) : Prop :=
  w_X6_make p1 p2 p3 p4 v_fault v_faultPlace v_count v_at v_sort v_value v_low v_high v_firstPart v_nextPart (fun r_1 r_1_0 r_1_1 r_1_2 r_1_3 r_1_4 r_1_5 r_1_6 r_1_7 r_1_8 => vp_in r_1 256 ∧ ∀ g_3 : Nat → Int32, g_3 = upd r_1_7 r_1.toNatClampNeg p5 → Q r_1 r_1_0 r_1_1 r_1_2 r_1_3 r_1_4 r_1_5 r_1_6 g_3 r_1_8)
set_option maxHeartbeats 4000000 in
set_option maxRecDepth 100000 in
theorem mt_X6_makeRound (l : Launch) (dC : Nat → ClassId) (dI : Nat → Nat → Nat) (h0 h1 h2 h3 h4 h5 h6 h7 h8 h9 h10 h11 h12 : Nat) (k0 k1 k2 k3 k4 k5 : ClassId) (p1 : Int32) (p2 : Int32) (p3 : Int32) (p4 : Int32) (p5 : Int32) (v_fault : Int32) (v_faultPlace : Int32) (v_count : Int32) (v_depth : Int32) (v_at : Int32) (v_items : Int32) (v_partCount : Int32) (v_sort : Nat → Int32) (v_value : Nat → Int32) (v_low : Nat → Int32) (v_high : Nat → Int32) (v_firstPart : Nat → Int32) (v_nextPart : Nat → Int32) (Q : Int32 → Int32 → Int32 → Int32 → (Nat → Int32) → (Nat → Int32) → (Nat → Int32) → (Nat → Int32) → (Nat → Int32) → (Nat → Int32) → Prop) (w : w_X6_makeRound p1 p2 p3 p4 p5 v_fault v_faultPlace v_count v_at v_sort v_value v_low v_high v_firstPart v_nextPart Q) (sz : Nat) : Met l yX6_makeRound (WS yX6_makeRound cX6_makeRound 7 (some (.int))) ({ frames := 2, cells := 0, slots := 0, locals := 47 } : Room) (va_Pc [.ref h0, .int p1, .int p2, .int p3, .int p4, .int p5] (fun U => U.heap.size = sz ∧ va_P (dC, dI) vwCl [(h0, .inr (9, oX6 v_fault v_faultPlace (.ref h1) (.ref h2) (.ref h3) (.ref h4) (.ref h5) (.ref h6) v_count (.ref h7) v_depth (.ref h8) (.ref h9) v_at v_items (.ref h10) (.ref h11) (.ref h12) v_partCount)), (h1, .inl (k0, 256, .inl v_sort)), (h2, .inl (k1, 256, .inl v_value)), (h3, .inl (k2, 256, .inl v_low)), (h4, .inl (k3, 256, .inl v_high)), (h5, .inl (k4, 256, .inl v_firstPart)), (h6, .inl (k5, 256, .inl v_nextPart))] U.heap ∧ va_K (dC, dI) vwCl [(k0, .int), (k1, .int), (k2, .int), (k3, .int), (k4, .int), (k5, .int)] U ∧ va_D (fun _ => True) [(h0, .inr (9, oX6 v_fault v_faultPlace (.ref h1) (.ref h2) (.ref h3) (.ref h4) (.ref h5) (.ref h6) v_count (.ref h7) v_depth (.ref h8) (.ref h9) v_at v_items (.ref h10) (.ref h11) (.ref h12) v_partCount)), (h1, .inl (k0, 256, .inl v_sort)), (h2, .inl (k1, 256, .inl v_value)), (h3, .inl (k2, 256, .inl v_low)), (h4, .inl (k3, 256, .inl v_high)), (h5, .inl (k4, 256, .inl v_firstPart)), (h6, .inl (k5, 256, .inl v_nextPart))])) (va_Qi (fun (r u : Int32) => r = u) (fun (u : Int32) (t : State) => ∃ (ov_fault : Int32), ∃ (ov_faultPlace : Int32), ∃ (ov_count : Int32), ∃ (ov_sort : Nat → Int32), ∃ (ov_value : Nat → Int32), ∃ (ov_low : Nat → Int32), ∃ (ov_high : Nat → Int32), ∃ (ov_firstPart : Nat → Int32), ∃ (ov_nextPart : Nat → Int32), (Q u ov_fault ov_faultPlace ov_count ov_sort ov_value ov_low ov_high ov_firstPart ov_nextPart) ∧ va_P (dC, dI) vwCl [(h0, .inr (9, oX6 ov_fault ov_faultPlace (.ref h1) (.ref h2) (.ref h3) (.ref h4) (.ref h5) (.ref h6) ov_count (.ref h7) v_depth (.ref h8) (.ref h9) v_at v_items (.ref h10) (.ref h11) (.ref h12) v_partCount)), (h1, .inl (k0, 256, .inl ov_sort)), (h2, .inl (k1, 256, .inl ov_value)), (h3, .inl (k2, 256, .inl ov_low)), (h4, .inl (k3, 256, .inl ov_high)), (h5, .inl (k4, 256, .inl ov_firstPart)), (h6, .inl (k5, 256, .inl ov_nextPart))] t.heap ∧ va_D (va_A [(h0, .inr (9, oX6 v_fault v_faultPlace (.ref h1) (.ref h2) (.ref h3) (.ref h4) (.ref h5) (.ref h6) v_count (.ref h7) v_depth (.ref h8) (.ref h9) v_at v_items (.ref h10) (.ref h11) (.ref h12) v_partCount)), (h1, .inl (k0, 256, .inl v_sort)), (h2, .inl (k1, 256, .inl v_value)), (h3, .inl (k2, 256, .inl v_low)), (h4, .inl (k3, 256, .inl v_high)), (h5, .inl (k4, 256, .inl v_firstPart)), (h6, .inl (k5, 256, .inl v_nextPart))] sz) [(h0, .inr (9, oX6 ov_fault ov_faultPlace (.ref h1) (.ref h2) (.ref h3) (.ref h4) (.ref h5) (.ref h6) ov_count (.ref h7) v_depth (.ref h8) (.ref h9) v_at v_items (.ref h10) (.ref h11) (.ref h12) v_partCount)), (h1, .inl (k0, 256, .inl ov_sort)), (h2, .inl (k1, 256, .inl ov_value)), (h3, .inl (k2, 256, .inl ov_low)), (h4, .inl (k3, 256, .inl ov_high)), (h5, .inl (k4, 256, .inl ov_firstPart)), (h6, .inl (k5, 256, .inl ov_nextPart))]) (va_A [(h0, .inr (9, oX6 v_fault v_faultPlace (.ref h1) (.ref h2) (.ref h3) (.ref h4) (.ref h5) (.ref h6) v_count (.ref h7) v_depth (.ref h8) (.ref h9) v_at v_items (.ref h10) (.ref h11) (.ref h12) v_partCount)), (h1, .inl (k0, 256, .inl v_sort)), (h2, .inl (k1, 256, .inl v_value)), (h3, .inl (k2, 256, .inl v_low)), (h4, .inl (k3, 256, .inl v_high)), (h5, .inl (k4, 256, .inl v_firstPart)), (h6, .inl (k5, 256, .inl v_nextPart))] sz)) 0 0 (va_A [(h0, .inr (9, oX6 v_fault v_faultPlace (.ref h1) (.ref h2) (.ref h3) (.ref h4) (.ref h5) (.ref h6) v_count (.ref h7) v_depth (.ref h8) (.ref h9) v_at v_items (.ref h10) (.ref h11) (.ref h12) v_partCount)), (h1, .inl (k0, 256, .inl v_sort)), (h2, .inl (k1, 256, .inl v_value)), (h3, .inl (k2, 256, .inl v_low)), (h4, .inl (k3, 256, .inl v_high)), (h5, .inl (k4, 256, .inl v_firstPart)), (h6, .inl (k5, 256, .inl v_nextPart))] sz) := by
  refine Met.ofW (cc := cX6_makeRound) (maxL := 7) (ret := (some (.int))) (by decide) rfl ?_
  intro p e s m args below meth c s₁ B hml hv
  obtain ⟨rfl, hsz, hP, hK, hD0⟩ := hv
  have hx := B.exec
  have hb := B.bytes
  have hr := B.returns
  have hts := atoms_spec (ws := WS yX6_makeRound cX6_makeRound 7 (some (.int))) B.pre
  have ht : ∀ w ∈ TW, w.before _ s = true := fun w h => hts w (List.mem_cons_of_mem _ h)
  have hown : s.vm.findClass "PatternWorkshop$Reader" = some m.cls := findClass_of_methodNamed B.named
  have hlocks := B.notSynchronized
  subst hsz
  have hD := hD0.self (sz := s.heap.size)
  generalize hAe : va_A [(h0, .inr (9, oX6 v_fault v_faultPlace (.ref h1) (.ref h2) (.ref h3) (.ref h4) (.ref h5) (.ref h6) v_count (.ref h7) v_depth (.ref h8) (.ref h9) v_at v_items (.ref h10) (.ref h11) (.ref h12) v_partCount)), (h1, .inl (k0, 256, .inl v_sort)), (h2, .inl (k1, 256, .inl v_value)), (h3, .inl (k2, 256, .inl v_low)), (h4, .inl (k3, 256, .inl v_high)), (h5, .inl (k4, 256, .inl v_firstPart)), (h6, .inl (k5, 256, .inl v_nextPart))] s.heap.size = A at hD ⊢
  have hA : ∀ q : Nat, s.heap.size ≤ q → A q := fun q h => by rw [← hAe]; exact Or.inr h
  have hS : va_S A s.heap s.heap [] := va_S.rf
  have hP : va_P (dC, dI) vwCl [(h0, .inr (9, oX6 v_fault v_faultPlace (.ref h1) (.ref h2) (.ref h3) (.ref h4) (.ref h5) (.ref h6) v_count (.ref h7) v_depth (.ref h8) (.ref h9) v_at v_items (.ref h10) (.ref h11) (.ref h12) v_partCount)), (h1, .inl (k0, 256, .inl v_sort)), (h2, .inl (k1, 256, .inl v_value)), (h3, .inl (k2, 256, .inl v_low)), (h4, .inl (k3, 256, .inl v_high)), (h5, .inl (k4, 256, .inl v_firstPart)), (h6, .inl (k5, 256, .inl v_nextPart))] s.heap := hP
  have hl := lv_entry ([.ref h0, .int p1, .int p2, .int p3, .int p4, .int p5]) (n := 7) (Nat.le_of_ble_eq_true rfl)
  rw [lg_entry_eq]
  generalize (lg_sl ([.ref h0, .int p1, .int p2, .int p3, .int p4, .int p5]) ++ List.replicate (7 - (lg_sl ([.ref h0, .int p1, .int p2, .int p3, .int p4, .int p5])).length) Slot.unset).toArray = ls at hl ⊢
  have hl : lv_has ls 7 [(0, .ref h0), (1, .int p1), (2, .int p2), (3, .int p3), (4, .int p4), (5, .int p5)] := hl
  clear hD0
  obtain ⟨QQ, hQQ⟩ : ∃ QQ, QQ = MQ below (va_Qi (fun (r u : Int32) => r = u) (fun (u : Int32) (t : State) => ∃ (ov_fault : Int32), ∃ (ov_faultPlace : Int32), ∃ (ov_count : Int32), ∃ (ov_sort : Nat → Int32), ∃ (ov_value : Nat → Int32), ∃ (ov_low : Nat → Int32), ∃ (ov_high : Nat → Int32), ∃ (ov_firstPart : Nat → Int32), ∃ (ov_nextPart : Nat → Int32), (Q u ov_fault ov_faultPlace ov_count ov_sort ov_value ov_low ov_high ov_firstPart ov_nextPart) ∧ va_P (dC, dI) vwCl [(h0, .inr (9, oX6 ov_fault ov_faultPlace (.ref h1) (.ref h2) (.ref h3) (.ref h4) (.ref h5) (.ref h6) ov_count (.ref h7) v_depth (.ref h8) (.ref h9) v_at v_items (.ref h10) (.ref h11) (.ref h12) v_partCount)), (h1, .inl (k0, 256, .inl ov_sort)), (h2, .inl (k1, 256, .inl ov_value)), (h3, .inl (k2, 256, .inl ov_low)), (h4, .inl (k3, 256, .inl ov_high)), (h5, .inl (k4, 256, .inl ov_firstPart)), (h6, .inl (k5, 256, .inl ov_nextPart))] t.heap ∧ va_D A [(h0, .inr (9, oX6 ov_fault ov_faultPlace (.ref h1) (.ref h2) (.ref h3) (.ref h4) (.ref h5) (.ref h6) ov_count (.ref h7) v_depth (.ref h8) (.ref h9) v_at v_items (.ref h10) (.ref h11) (.ref h12) v_partCount)), (h1, .inl (k0, 256, .inl ov_sort)), (h2, .inl (k1, 256, .inl ov_value)), (h3, .inl (k2, 256, .inl ov_low)), (h4, .inl (k3, 256, .inl ov_high)), (h5, .inl (k4, 256, .inl ov_firstPart)), (h6, .inl (k5, 256, .inl ov_nextPart))]) A) ([.ref h0, .int p1, .int p2, .int p3, .int p4, .int p5]).toArray s 0 0 A := ⟨_, rfl⟩
  show W p l e ({ frames := 2, cells := 0, slots := 0, locals := 47 } : Room) s m ([.ref h0, .int p1, .int p2, .int p3, .int p4, .int p5]).toArray below meth c s.heap [] 0 0 (MQ below (va_Qi (fun (r u : Int32) => r = u) (fun (u : Int32) (t : State) => ∃ (ov_fault : Int32), ∃ (ov_faultPlace : Int32), ∃ (ov_count : Int32), ∃ (ov_sort : Nat → Int32), ∃ (ov_value : Nat → Int32), ∃ (ov_low : Nat → Int32), ∃ (ov_high : Nat → Int32), ∃ (ov_firstPart : Nat → Int32), ∃ (ov_nextPart : Nat → Int32), (Q u ov_fault ov_faultPlace ov_count ov_sort ov_value ov_low ov_high ov_firstPart ov_nextPart) ∧ va_P (dC, dI) vwCl [(h0, .inr (9, oX6 ov_fault ov_faultPlace (.ref h1) (.ref h2) (.ref h3) (.ref h4) (.ref h5) (.ref h6) ov_count (.ref h7) v_depth (.ref h8) (.ref h9) v_at v_items (.ref h10) (.ref h11) (.ref h12) v_partCount)), (h1, .inl (k0, 256, .inl ov_sort)), (h2, .inl (k1, 256, .inl ov_value)), (h3, .inl (k2, 256, .inl ov_low)), (h4, .inl (k3, 256, .inl ov_high)), (h5, .inl (k4, 256, .inl ov_firstPart)), (h6, .inl (k5, 256, .inl ov_nextPart))] t.heap ∧ va_D A [(h0, .inr (9, oX6 ov_fault ov_faultPlace (.ref h1) (.ref h2) (.ref h3) (.ref h4) (.ref h5) (.ref h6) ov_count (.ref h7) v_depth (.ref h8) (.ref h9) v_at v_items (.ref h10) (.ref h11) (.ref h12) v_partCount)), (h1, .inl (k0, 256, .inl ov_sort)), (h2, .inl (k1, 256, .inl ov_value)), (h3, .inl (k2, 256, .inl ov_low)), (h4, .inl (k3, 256, .inl ov_high)), (h5, .inl (k4, 256, .inl ov_firstPart)), (h6, .inl (k5, 256, .inl ov_nextPart))]) A) ([.ref h0, .int p1, .int p2, .int p3, .int p4, .int p5]).toArray s 0 0 A) (F0 m 0 ls [])
  rw [← hQQ]
  unfold w_X6_makeRound at w
  refine lv_aload_n hx hb dX6_makeRound_0 rfl (lv_at hl 0 rfl) ?_
  refine lv_iload_n hx hb dX6_makeRound_1 rfl (lv_at hl 1 rfl) ?_
  refine lv_iload_n hx hb dX6_makeRound_2 rfl (lv_at hl 2 rfl) ?_
  refine lv_iload_n hx hb dX6_makeRound_3 rfl (lv_at hl 3 rfl) ?_
  refine lv_iload hx hb dX6_makeRound_4 (lv_at hl 4 rfl) ?_
  have hPc_1 := hP.sub (ws' := [(h0, .inr (9, oX6 v_fault v_faultPlace (.ref h1) (.ref h2) (.ref h3) (.ref h4) (.ref h5) (.ref h6) v_count (.ref h7) v_depth (.ref h8) (.ref h9) v_at v_items (.ref h10) (.ref h11) (.ref h12) v_partCount)), (h1, .inl (k0, 256, .inl v_sort)), (h2, .inl (k1, 256, .inl v_value)), (h3, .inl (k2, 256, .inl v_low)), (h4, .inl (k3, 256, .inl v_high)), (h5, .inl (k4, 256, .inl v_firstPart)), (h6, .inl (k5, 256, .inl v_nextPart))]) [0, 1, 2, 3, 4, 5, 6] rfl
  have hDc_1 := hD.sub (ws' := [(h0, .inr (9, oX6 v_fault v_faultPlace (.ref h1) (.ref h2) (.ref h3) (.ref h4) (.ref h5) (.ref h6) v_count (.ref h7) v_depth (.ref h8) (.ref h9) v_at v_items (.ref h10) (.ref h11) (.ref h12) v_partCount)), (h1, .inl (k0, 256, .inl v_sort)), (h2, .inl (k1, 256, .inl v_value)), (h3, .inl (k2, 256, .inl v_low)), (h4, .inl (k3, 256, .inl v_high)), (h5, .inl (k4, 256, .inl v_firstPart)), (h6, .inl (k5, 256, .inl v_nextPart))]) [0, 1, 2, 3, 4, 5, 6] (by decide) rfl
  have hKc_1 := hK.sub (tys' := [(k0, .int), (k1, .int), (k2, .int), (k3, .int), (k4, .int), (k5, .int)]) [0, 1, 2, 3, 4, 5] rfl
  have hFc_1 := va_free (wc := [(h0, .inr (9, oX6 v_fault v_faultPlace (.ref h1) (.ref h2) (.ref h3) (.ref h4) (.ref h5) (.ref h6) v_count (.ref h7) v_depth (.ref h8) (.ref h9) v_at v_items (.ref h10) (.ref h11) (.ref h12) v_partCount)), (h1, .inl (k0, 256, .inl v_sort)), (h2, .inl (k1, 256, .inl v_value)), (h3, .inl (k2, 256, .inl v_low)), (h4, .inl (k3, 256, .inl v_high)), (h5, .inl (k4, 256, .inl v_firstPart)), (h6, .inl (k5, 256, .inl v_nextPart))]) hD hS hA [0, 1, 2, 3, 4, 5, 6] rfl
  refine va_calli (va_runV (As := [.int p1, .int p2, .int p3, .int p4]) (rest := []) ⟨hx, hb, hml, hown, ht⟩ (mt_X6_make l dC dI h0 h1 h2 h3 h4 h5 h6 h7 h8 h9 h10 h11 h12 k0 k1 k2 k3 k4 k5 p1 p2 p3 p4 v_fault v_faultPlace v_count v_depth v_at v_items v_partCount v_sort v_value v_low v_high v_firstPart v_nextPart _ w s.heap.size) (cwV 4 ht (goodV tw_927 tw_929 tw_7 tw_239 gw_X6_make) rfl rfl rfl (by decide +kernel) ⟨Nat.le_of_ble_eq_true rfl, Nat.le_of_ble_eq_true rfl⟩) ⟨fun a U g mk q => by obtain ⟨q0, q1, qP, qK, qD⟩ := q; exact ⟨q0, q1, qP, va_K.moved (u := U) (U := U.calling g mk a) (Vm.Alike.refl U.vm) qK, qD⟩, va_recv hKc_1 hPc_1 (ci := 9) (q0 := 0) rfl rfl, fun U hU hW => ⟨rfl, by rw [hU], by rw [hU]; exact hPc_1, va_K.moved hW.alike hKc_1, hDc_1.weaken (fun _ _ _ _ => trivial)⟩⟩ rfl rfl hl.1 rfl (lv_room (Nat.le_of_ble_eq_true rfl)) dX6_makeRound_6 ⟨Nat.le_of_ble_eq_true rfl, Nat.le_of_ble_eq_true rfl⟩) hS (fun q _ h => hFc_1 q h) hFc_1 (fun r_1 u_1 t_1 H_1 locs_1 ht_1 hvm_1 hw_1 hB_1 hz_1 hk_1 hS_1 => ?_)
  subst hw_1
  obtain ⟨r_1_0, r_1_1, r_1_2, r_1_3, r_1_4, r_1_5, r_1_6, r_1_7, r_1_8, w_1, hP1_1, hD1_1⟩ := hB_1
  rw [ht_1] at hP1_1
  obtain ⟨hP_1, hD_1⟩ := va_join (wr := []) (w1 := [(h0, .inr (9, oX6 r_1_0 r_1_1 (.ref h1) (.ref h2) (.ref h3) (.ref h4) (.ref h5) (.ref h6) r_1_2 (.ref h7) v_depth (.ref h8) (.ref h9) v_at v_items (.ref h10) (.ref h11) (.ref h12) v_partCount)), (h1, .inl (k0, 256, .inl r_1_3)), (h2, .inl (k1, 256, .inl r_1_4)), (h3, .inl (k2, 256, .inl r_1_5)), (h4, .inl (k3, 256, .inl r_1_6)), (h5, .inl (k4, 256, .inl r_1_7)), (h6, .inl (k5, 256, .inl r_1_8))]) hP hD [0, 1, 2, 3, 4, 5, 6] [] rfl rfl (by decide) (by decide) hk_1 hFc_1 hP1_1 hD1_1
  have hP_1 := hP_1.sub (ws' := [(h0, .inr (9, oX6 r_1_0 r_1_1 (.ref h1) (.ref h2) (.ref h3) (.ref h4) (.ref h5) (.ref h6) r_1_2 (.ref h7) v_depth (.ref h8) (.ref h9) v_at v_items (.ref h10) (.ref h11) (.ref h12) v_partCount)), (h1, .inl (k0, 256, .inl r_1_3)), (h2, .inl (k1, 256, .inl r_1_4)), (h3, .inl (k2, 256, .inl r_1_5)), (h4, .inl (k3, 256, .inl r_1_6)), (h5, .inl (k4, 256, .inl r_1_7)), (h6, .inl (k5, 256, .inl r_1_8))]) [0, 1, 2, 3, 4, 5, 6] rfl
  have hD_1 := hD_1.sub (ws' := [(h0, .inr (9, oX6 r_1_0 r_1_1 (.ref h1) (.ref h2) (.ref h3) (.ref h4) (.ref h5) (.ref h6) r_1_2 (.ref h7) v_depth (.ref h8) (.ref h9) v_at v_items (.ref h10) (.ref h11) (.ref h12) v_partCount)), (h1, .inl (k0, 256, .inl r_1_3)), (h2, .inl (k1, 256, .inl r_1_4)), (h3, .inl (k2, 256, .inl r_1_5)), (h4, .inl (k3, 256, .inl r_1_6)), (h5, .inl (k4, 256, .inl r_1_7)), (h6, .inl (k5, 256, .inl r_1_8))]) [0, 1, 2, 3, 4, 5, 6] (by decide) rfl
  clear hPc_1 hDc_1 hKc_1 hFc_1 hP1_1 hD1_1 hk_1 hz_1
  refine lv_istore (lv' := [(6, .int r_1), (0, .ref h0), (1, .int p1), (2, .int p2), (3, .int p3), (4, .int p4), (5, .int p5)]) hx hb dX6_makeRound_9 hl (by decide) rfl (fun ls_2 hl_2 => ?_)
  clear hl
  refine lv_aload_n hx hb dX6_makeRound_11 rfl (lv_at hl_2 1 rfl) ?_
  refine va_get (D := (dC, dI)) (ci := 9) (v := .ref h5) (C := RX6) (T := TX6) (N := 19) hx hb ht inX6 hown hK hP_1 0 rfl rfl 6 (by decide) (ht _ tw_443) (fun _ h9 => h9) rfl dX6_makeRound_12 ?_
  refine lv_iload hx hb dX6_makeRound_15 (lv_at hl_2 0 rfl) ?_
  refine lv_iload hx hb dX6_makeRound_17 (lv_at hl_2 6 rfl) ?_
  refine va_iast hx hb hK hP_1 hD_1 hS_1 5 4 rfl rfl (i := r_1) w_1.1 dX6_makeRound_19 (fun H_3 locs_3 hP_3 hD_3 hS_3 => ?_)
  obtain ⟨g_3, hg_3⟩ : ∃ g : Nat → Int32, g = upd r_1_7 r_1.toNatClampNeg p5 := ⟨_, rfl⟩
  have hP_3 : va_P (dC, dI) vwCl [(h0, .inr (9, oX6 r_1_0 r_1_1 (.ref h1) (.ref h2) (.ref h3) (.ref h4) (.ref h5) (.ref h6) r_1_2 (.ref h7) v_depth (.ref h8) (.ref h9) v_at v_items (.ref h10) (.ref h11) (.ref h12) v_partCount)), (h1, .inl (k0, 256, .inl r_1_3)), (h2, .inl (k1, 256, .inl r_1_4)), (h3, .inl (k2, 256, .inl r_1_5)), (h4, .inl (k3, 256, .inl r_1_6)), (h5, .inl (k4, 256, .inl g_3)), (h6, .inl (k5, 256, .inl r_1_8))] H_3 := by rw [hg_3]; exact hP_3
  have hD_3 : va_D A [(h0, .inr (9, oX6 r_1_0 r_1_1 (.ref h1) (.ref h2) (.ref h3) (.ref h4) (.ref h5) (.ref h6) r_1_2 (.ref h7) v_depth (.ref h8) (.ref h9) v_at v_items (.ref h10) (.ref h11) (.ref h12) v_partCount)), (h1, .inl (k0, 256, .inl r_1_3)), (h2, .inl (k1, 256, .inl r_1_4)), (h3, .inl (k2, 256, .inl r_1_5)), (h4, .inl (k3, 256, .inl r_1_6)), (h5, .inl (k4, 256, .inl g_3)), (h6, .inl (k5, 256, .inl r_1_8))] := by rw [hg_3]; exact hD_3
  refine lv_iload hx hb dX6_makeRound_20 (lv_at hl_2 0 rfl) ?_
  rw [hQQ]
  exact W.iret (v := r_1) hx hb hr (fun t9 ht9 hW9 => ⟨⟨r_1, r_1, rfl, rfl, ⟨r_1_0, r_1_1, r_1_2, r_1_3, r_1_4, r_1_5, r_1_6, g_3, r_1_8, w_1.2 g_3 hg_3, by rw [ht9]; exact hP_3, hD_3⟩⟩, hS_3.F ht9⟩) hS_3.2.2 dX6_makeRound_22
def w_X6_choiceOf_28 (Q : Int32 → Int32 → Int32 → Int32 → (Nat → Int32) → (Nat → Int32) → (Nat → Int32) → (Nat → Int32) → (Nat → Int32) → (Nat → Int32) → Prop) (s0_28 : Int32) (v_fault_28 : Int32) (v_faultPlace_28 : Int32) (v_count_28 : Int32) (v_sort_28 : Nat → Int32) (v_value_28 : Nat → Int32) (v_low_28 : Nat → Int32) (v_high_28 : Nat → Int32) (v_firstPart_28 : Nat → Int32) (v_nextPart_28 : Nat → Int32) : Prop :=
  Q s0_28 v_fault_28 v_faultPlace_28 v_count_28 v_sort_28 v_value_28 v_low_28 v_high_28 v_firstPart_28 v_nextPart_28
def w_X6_choiceOf (v_fault : Int32) (v_faultPlace : Int32) (v_count : Int32) (v_at : Int32) (v_sort : Nat → Int32) (v_value : Nat → Int32) (v_low : Nat → Int32) (v_high : Nat → Int32) (v_firstPart : Nat → Int32) (v_nextPart : Nat → Int32) (a1_choiceFirst : Int32) (a1_choiceCount : Int32) (Q : Int32 → Int32 → Int32 → Int32 → (Nat → Int32) → (Nat → Int32) → (Nat → Int32) → (Nat → Int32) → (Nat → Int32) → (Nat → Int32) → Prop) : Prop :=
  ((¬ a1_choiceCount = 1) → w_X6_makeRound 6 0 0 0 a1_choiceFirst v_fault v_faultPlace v_count v_at v_sort v_value v_low v_high v_firstPart v_nextPart (fun r_2 r_2_0 r_2_1 r_2_2 r_2_3 r_2_4 r_2_5 r_2_6 r_2_7 r_2_8 => w_X6_choiceOf_28 Q r_2 r_2_0 r_2_1 r_2_2 r_2_3 r_2_4 r_2_5 r_2_6 r_2_7 r_2_8)) ∧ ((a1_choiceCount = 1) → w_X6_choiceOf_28 Q a1_choiceFirst v_fault v_faultPlace v_count v_sort v_value v_low v_high v_firstPart v_nextPart)
set_option maxHeartbeats 4000000 in
set_option maxRecDepth 100000 in
theorem mt_X6_choiceOf (l : Launch) (dC : Nat → ClassId) (dI : Nat → Nat → Nat) (h0 h1 h2 h3 h4 h5 h6 h7 h8 h9 h10 h11 h12 h13 : Nat) (k0 k1 k2 k3 k4 k5 : ClassId) (v_fault : Int32) (v_faultPlace : Int32) (v_count : Int32) (v_depth : Int32) (v_at : Int32) (v_items : Int32) (v_partCount : Int32) (v_sort : Nat → Int32) (v_value : Nat → Int32) (v_low : Nat → Int32) (v_high : Nat → Int32) (v_firstPart : Nat → Int32) (v_nextPart : Nat → Int32) (a1_sort : Int32) (a1_value : Int32) (a1_name : Int32) (a1_pending : Int32) (a1_loopable : Bool) (a1_rowFirst : Int32) (a1_rowLast : Int32) (a1_rowCount : Int32) (a1_choiceFirst : Int32) (a1_choiceLast : Int32) (a1_choiceCount : Int32) (Q : Int32 → Int32 → Int32 → Int32 → (Nat → Int32) → (Nat → Int32) → (Nat → Int32) → (Nat → Int32) → (Nat → Int32) → (Nat → Int32) → Prop) (w : w_X6_choiceOf v_fault v_faultPlace v_count v_at v_sort v_value v_low v_high v_firstPart v_nextPart a1_choiceFirst a1_choiceCount Q) (sz : Nat) : Met l yX6_choiceOf (WS yX6_choiceOf cX6_choiceOf 2 (some (.int))) ({ frames := 3, cells := 0, slots := 0, locals := 73 } : Room) (va_Pc [.ref h0, .ref h1] (fun U => U.heap.size = sz ∧ va_P (dC, dI) vwCl [(h0, .inr (9, oX6 v_fault v_faultPlace (.ref h2) (.ref h3) (.ref h4) (.ref h5) (.ref h6) (.ref h7) v_count (.ref h8) v_depth (.ref h9) (.ref h10) v_at v_items (.ref h11) (.ref h12) (.ref h13) v_partCount)), (h2, .inl (k0, 256, .inl v_sort)), (h3, .inl (k1, 256, .inl v_value)), (h4, .inl (k2, 256, .inl v_low)), (h5, .inl (k3, 256, .inl v_high)), (h6, .inl (k4, 256, .inl v_firstPart)), (h7, .inl (k5, 256, .inl v_nextPart)), (h1, .inr (5, oX2 a1_sort a1_value a1_name a1_pending a1_loopable a1_rowFirst a1_rowLast a1_rowCount a1_choiceFirst a1_choiceLast a1_choiceCount))] U.heap ∧ va_K (dC, dI) vwCl [(k0, .int), (k1, .int), (k2, .int), (k3, .int), (k4, .int), (k5, .int)] U ∧ va_D (fun _ => True) [(h0, .inr (9, oX6 v_fault v_faultPlace (.ref h2) (.ref h3) (.ref h4) (.ref h5) (.ref h6) (.ref h7) v_count (.ref h8) v_depth (.ref h9) (.ref h10) v_at v_items (.ref h11) (.ref h12) (.ref h13) v_partCount)), (h2, .inl (k0, 256, .inl v_sort)), (h3, .inl (k1, 256, .inl v_value)), (h4, .inl (k2, 256, .inl v_low)), (h5, .inl (k3, 256, .inl v_high)), (h6, .inl (k4, 256, .inl v_firstPart)), (h7, .inl (k5, 256, .inl v_nextPart)), (h1, .inr (5, oX2 a1_sort a1_value a1_name a1_pending a1_loopable a1_rowFirst a1_rowLast a1_rowCount a1_choiceFirst a1_choiceLast a1_choiceCount))])) (va_Qi (fun (r u : Int32) => r = u) (fun (u : Int32) (t : State) => ∃ (ov_fault : Int32), ∃ (ov_faultPlace : Int32), ∃ (ov_count : Int32), ∃ (ov_sort : Nat → Int32), ∃ (ov_value : Nat → Int32), ∃ (ov_low : Nat → Int32), ∃ (ov_high : Nat → Int32), ∃ (ov_firstPart : Nat → Int32), ∃ (ov_nextPart : Nat → Int32), (Q u ov_fault ov_faultPlace ov_count ov_sort ov_value ov_low ov_high ov_firstPart ov_nextPart) ∧ va_P (dC, dI) vwCl [(h0, .inr (9, oX6 ov_fault ov_faultPlace (.ref h2) (.ref h3) (.ref h4) (.ref h5) (.ref h6) (.ref h7) ov_count (.ref h8) v_depth (.ref h9) (.ref h10) v_at v_items (.ref h11) (.ref h12) (.ref h13) v_partCount)), (h2, .inl (k0, 256, .inl ov_sort)), (h3, .inl (k1, 256, .inl ov_value)), (h4, .inl (k2, 256, .inl ov_low)), (h5, .inl (k3, 256, .inl ov_high)), (h6, .inl (k4, 256, .inl ov_firstPart)), (h7, .inl (k5, 256, .inl ov_nextPart)), (h1, .inr (5, oX2 a1_sort a1_value a1_name a1_pending a1_loopable a1_rowFirst a1_rowLast a1_rowCount a1_choiceFirst a1_choiceLast a1_choiceCount))] t.heap ∧ va_D (va_A [(h0, .inr (9, oX6 v_fault v_faultPlace (.ref h2) (.ref h3) (.ref h4) (.ref h5) (.ref h6) (.ref h7) v_count (.ref h8) v_depth (.ref h9) (.ref h10) v_at v_items (.ref h11) (.ref h12) (.ref h13) v_partCount)), (h2, .inl (k0, 256, .inl v_sort)), (h3, .inl (k1, 256, .inl v_value)), (h4, .inl (k2, 256, .inl v_low)), (h5, .inl (k3, 256, .inl v_high)), (h6, .inl (k4, 256, .inl v_firstPart)), (h7, .inl (k5, 256, .inl v_nextPart)), (h1, .inr (5, oX2 a1_sort a1_value a1_name a1_pending a1_loopable a1_rowFirst a1_rowLast a1_rowCount a1_choiceFirst a1_choiceLast a1_choiceCount))] sz) [(h0, .inr (9, oX6 ov_fault ov_faultPlace (.ref h2) (.ref h3) (.ref h4) (.ref h5) (.ref h6) (.ref h7) ov_count (.ref h8) v_depth (.ref h9) (.ref h10) v_at v_items (.ref h11) (.ref h12) (.ref h13) v_partCount)), (h2, .inl (k0, 256, .inl ov_sort)), (h3, .inl (k1, 256, .inl ov_value)), (h4, .inl (k2, 256, .inl ov_low)), (h5, .inl (k3, 256, .inl ov_high)), (h6, .inl (k4, 256, .inl ov_firstPart)), (h7, .inl (k5, 256, .inl ov_nextPart)), (h1, .inr (5, oX2 a1_sort a1_value a1_name a1_pending a1_loopable a1_rowFirst a1_rowLast a1_rowCount a1_choiceFirst a1_choiceLast a1_choiceCount))]) (va_A [(h0, .inr (9, oX6 v_fault v_faultPlace (.ref h2) (.ref h3) (.ref h4) (.ref h5) (.ref h6) (.ref h7) v_count (.ref h8) v_depth (.ref h9) (.ref h10) v_at v_items (.ref h11) (.ref h12) (.ref h13) v_partCount)), (h2, .inl (k0, 256, .inl v_sort)), (h3, .inl (k1, 256, .inl v_value)), (h4, .inl (k2, 256, .inl v_low)), (h5, .inl (k3, 256, .inl v_high)), (h6, .inl (k4, 256, .inl v_firstPart)), (h7, .inl (k5, 256, .inl v_nextPart)), (h1, .inr (5, oX2 a1_sort a1_value a1_name a1_pending a1_loopable a1_rowFirst a1_rowLast a1_rowCount a1_choiceFirst a1_choiceLast a1_choiceCount))] sz)) 0 0 (va_A [(h0, .inr (9, oX6 v_fault v_faultPlace (.ref h2) (.ref h3) (.ref h4) (.ref h5) (.ref h6) (.ref h7) v_count (.ref h8) v_depth (.ref h9) (.ref h10) v_at v_items (.ref h11) (.ref h12) (.ref h13) v_partCount)), (h2, .inl (k0, 256, .inl v_sort)), (h3, .inl (k1, 256, .inl v_value)), (h4, .inl (k2, 256, .inl v_low)), (h5, .inl (k3, 256, .inl v_high)), (h6, .inl (k4, 256, .inl v_firstPart)), (h7, .inl (k5, 256, .inl v_nextPart)), (h1, .inr (5, oX2 a1_sort a1_value a1_name a1_pending a1_loopable a1_rowFirst a1_rowLast a1_rowCount a1_choiceFirst a1_choiceLast a1_choiceCount))] sz) := by
  refine Met.ofW (cc := cX6_choiceOf) (maxL := 2) (ret := (some (.int))) (by decide) rfl ?_
  intro p e s m args below meth c s₁ B hml hv
  obtain ⟨rfl, hsz, hP, hK, hD0⟩ := hv
  have hx := B.exec
  have hb := B.bytes
  have hr := B.returns
  have hts := atoms_spec (ws := WS yX6_choiceOf cX6_choiceOf 2 (some (.int))) B.pre
  have ht : ∀ w ∈ TW, w.before _ s = true := fun w h => hts w (List.mem_cons_of_mem _ h)
  have hown : s.vm.findClass "PatternWorkshop$Reader" = some m.cls := findClass_of_methodNamed B.named
  have hlocks := B.notSynchronized
  subst hsz
  have hD := hD0.self (sz := s.heap.size)
  generalize hAe : va_A [(h0, .inr (9, oX6 v_fault v_faultPlace (.ref h2) (.ref h3) (.ref h4) (.ref h5) (.ref h6) (.ref h7) v_count (.ref h8) v_depth (.ref h9) (.ref h10) v_at v_items (.ref h11) (.ref h12) (.ref h13) v_partCount)), (h2, .inl (k0, 256, .inl v_sort)), (h3, .inl (k1, 256, .inl v_value)), (h4, .inl (k2, 256, .inl v_low)), (h5, .inl (k3, 256, .inl v_high)), (h6, .inl (k4, 256, .inl v_firstPart)), (h7, .inl (k5, 256, .inl v_nextPart)), (h1, .inr (5, oX2 a1_sort a1_value a1_name a1_pending a1_loopable a1_rowFirst a1_rowLast a1_rowCount a1_choiceFirst a1_choiceLast a1_choiceCount))] s.heap.size = A at hD ⊢
  have hA : ∀ q : Nat, s.heap.size ≤ q → A q := fun q h => by rw [← hAe]; exact Or.inr h
  have hS : va_S A s.heap s.heap [] := va_S.rf
  have hP : va_P (dC, dI) vwCl [(h0, .inr (9, oX6 v_fault v_faultPlace (.ref h2) (.ref h3) (.ref h4) (.ref h5) (.ref h6) (.ref h7) v_count (.ref h8) v_depth (.ref h9) (.ref h10) v_at v_items (.ref h11) (.ref h12) (.ref h13) v_partCount)), (h2, .inl (k0, 256, .inl v_sort)), (h3, .inl (k1, 256, .inl v_value)), (h4, .inl (k2, 256, .inl v_low)), (h5, .inl (k3, 256, .inl v_high)), (h6, .inl (k4, 256, .inl v_firstPart)), (h7, .inl (k5, 256, .inl v_nextPart)), (h1, .inr (5, oX2 a1_sort a1_value a1_name a1_pending a1_loopable a1_rowFirst a1_rowLast a1_rowCount a1_choiceFirst a1_choiceLast a1_choiceCount))] s.heap := hP
  have hl := lv_entry ([.ref h0, .ref h1]) (n := 2) (Nat.le_of_ble_eq_true rfl)
  rw [lg_entry_eq]
  generalize (lg_sl ([.ref h0, .ref h1]) ++ List.replicate (2 - (lg_sl ([.ref h0, .ref h1])).length) Slot.unset).toArray = ls at hl ⊢
  have hl : lv_has ls 2 [(0, .ref h0), (1, .ref h1)] := hl
  clear hD0
  obtain ⟨QQ, hQQ⟩ : ∃ QQ, QQ = MQ below (va_Qi (fun (r u : Int32) => r = u) (fun (u : Int32) (t : State) => ∃ (ov_fault : Int32), ∃ (ov_faultPlace : Int32), ∃ (ov_count : Int32), ∃ (ov_sort : Nat → Int32), ∃ (ov_value : Nat → Int32), ∃ (ov_low : Nat → Int32), ∃ (ov_high : Nat → Int32), ∃ (ov_firstPart : Nat → Int32), ∃ (ov_nextPart : Nat → Int32), (Q u ov_fault ov_faultPlace ov_count ov_sort ov_value ov_low ov_high ov_firstPart ov_nextPart) ∧ va_P (dC, dI) vwCl [(h0, .inr (9, oX6 ov_fault ov_faultPlace (.ref h2) (.ref h3) (.ref h4) (.ref h5) (.ref h6) (.ref h7) ov_count (.ref h8) v_depth (.ref h9) (.ref h10) v_at v_items (.ref h11) (.ref h12) (.ref h13) v_partCount)), (h2, .inl (k0, 256, .inl ov_sort)), (h3, .inl (k1, 256, .inl ov_value)), (h4, .inl (k2, 256, .inl ov_low)), (h5, .inl (k3, 256, .inl ov_high)), (h6, .inl (k4, 256, .inl ov_firstPart)), (h7, .inl (k5, 256, .inl ov_nextPart)), (h1, .inr (5, oX2 a1_sort a1_value a1_name a1_pending a1_loopable a1_rowFirst a1_rowLast a1_rowCount a1_choiceFirst a1_choiceLast a1_choiceCount))] t.heap ∧ va_D A [(h0, .inr (9, oX6 ov_fault ov_faultPlace (.ref h2) (.ref h3) (.ref h4) (.ref h5) (.ref h6) (.ref h7) ov_count (.ref h8) v_depth (.ref h9) (.ref h10) v_at v_items (.ref h11) (.ref h12) (.ref h13) v_partCount)), (h2, .inl (k0, 256, .inl ov_sort)), (h3, .inl (k1, 256, .inl ov_value)), (h4, .inl (k2, 256, .inl ov_low)), (h5, .inl (k3, 256, .inl ov_high)), (h6, .inl (k4, 256, .inl ov_firstPart)), (h7, .inl (k5, 256, .inl ov_nextPart)), (h1, .inr (5, oX2 a1_sort a1_value a1_name a1_pending a1_loopable a1_rowFirst a1_rowLast a1_rowCount a1_choiceFirst a1_choiceLast a1_choiceCount))]) A) ([.ref h0, .ref h1]).toArray s 0 0 A := ⟨_, rfl⟩
  show W p l e ({ frames := 3, cells := 0, slots := 0, locals := 73 } : Room) s m ([.ref h0, .ref h1]).toArray below meth c s.heap [] 0 0 (MQ below (va_Qi (fun (r u : Int32) => r = u) (fun (u : Int32) (t : State) => ∃ (ov_fault : Int32), ∃ (ov_faultPlace : Int32), ∃ (ov_count : Int32), ∃ (ov_sort : Nat → Int32), ∃ (ov_value : Nat → Int32), ∃ (ov_low : Nat → Int32), ∃ (ov_high : Nat → Int32), ∃ (ov_firstPart : Nat → Int32), ∃ (ov_nextPart : Nat → Int32), (Q u ov_fault ov_faultPlace ov_count ov_sort ov_value ov_low ov_high ov_firstPart ov_nextPart) ∧ va_P (dC, dI) vwCl [(h0, .inr (9, oX6 ov_fault ov_faultPlace (.ref h2) (.ref h3) (.ref h4) (.ref h5) (.ref h6) (.ref h7) ov_count (.ref h8) v_depth (.ref h9) (.ref h10) v_at v_items (.ref h11) (.ref h12) (.ref h13) v_partCount)), (h2, .inl (k0, 256, .inl ov_sort)), (h3, .inl (k1, 256, .inl ov_value)), (h4, .inl (k2, 256, .inl ov_low)), (h5, .inl (k3, 256, .inl ov_high)), (h6, .inl (k4, 256, .inl ov_firstPart)), (h7, .inl (k5, 256, .inl ov_nextPart)), (h1, .inr (5, oX2 a1_sort a1_value a1_name a1_pending a1_loopable a1_rowFirst a1_rowLast a1_rowCount a1_choiceFirst a1_choiceLast a1_choiceCount))] t.heap ∧ va_D A [(h0, .inr (9, oX6 ov_fault ov_faultPlace (.ref h2) (.ref h3) (.ref h4) (.ref h5) (.ref h6) (.ref h7) ov_count (.ref h8) v_depth (.ref h9) (.ref h10) v_at v_items (.ref h11) (.ref h12) (.ref h13) v_partCount)), (h2, .inl (k0, 256, .inl ov_sort)), (h3, .inl (k1, 256, .inl ov_value)), (h4, .inl (k2, 256, .inl ov_low)), (h5, .inl (k3, 256, .inl ov_high)), (h6, .inl (k4, 256, .inl ov_firstPart)), (h7, .inl (k5, 256, .inl ov_nextPart)), (h1, .inr (5, oX2 a1_sort a1_value a1_name a1_pending a1_loopable a1_rowFirst a1_rowLast a1_rowCount a1_choiceFirst a1_choiceLast a1_choiceCount))]) A) ([.ref h0, .ref h1]).toArray s 0 0 A) (F0 m 0 ls [])
  rw [← hQQ]
  unfold w_X6_choiceOf at w
  refine lv_aload_n hx hb dX6_choiceOf_0 rfl (lv_at hl 1 rfl) ?_
  refine va_get (D := (dC, dI)) (ci := 5) (v := .int a1_choiceCount) (C := RX2) (T := TX2) (N := 11) hx hb ht inX2 hown hK hP 7 rfl rfl 10 (by decide) (ht _ tw_411) (fun _ h9 => h9) rfl dX6_choiceOf_1 ?_
  refine lv_iconst (v := 1) hx hb dX6_choiceOf_4 (by decide) ?_
  have k_28 : ∀ (s0_28 : Int32) (v_fault_28 : Int32) (v_faultPlace_28 : Int32) (v_count_28 : Int32) (v_sort_28 : Nat → Int32) (v_value_28 : Nat → Int32) (v_low_28 : Nat → Int32) (v_high_28 : Nat → Int32) (v_firstPart_28 : Nat → Int32) (v_nextPart_28 : Nat → Int32), ∀ (H_b28 : Heap) (locs_b28 : List Loc) (ls_b28 : Array Slot), w_X6_choiceOf_28 Q s0_28 v_fault_28 v_faultPlace_28 v_count_28 v_sort_28 v_value_28 v_low_28 v_high_28 v_firstPart_28 v_nextPart_28 → va_P (dC, dI) vwCl [(h0, .inr (9, oX6 v_fault_28 v_faultPlace_28 (.ref h2) (.ref h3) (.ref h4) (.ref h5) (.ref h6) (.ref h7) v_count_28 (.ref h8) v_depth (.ref h9) (.ref h10) v_at v_items (.ref h11) (.ref h12) (.ref h13) v_partCount)), (h2, .inl (k0, 256, .inl v_sort_28)), (h3, .inl (k1, 256, .inl v_value_28)), (h4, .inl (k2, 256, .inl v_low_28)), (h5, .inl (k3, 256, .inl v_high_28)), (h6, .inl (k4, 256, .inl v_firstPart_28)), (h7, .inl (k5, 256, .inl v_nextPart_28)), (h1, .inr (5, oX2 a1_sort a1_value a1_name a1_pending a1_loopable a1_rowFirst a1_rowLast a1_rowCount a1_choiceFirst a1_choiceLast a1_choiceCount))] H_b28 → va_D A [(h0, .inr (9, oX6 v_fault_28 v_faultPlace_28 (.ref h2) (.ref h3) (.ref h4) (.ref h5) (.ref h6) (.ref h7) v_count_28 (.ref h8) v_depth (.ref h9) (.ref h10) v_at v_items (.ref h11) (.ref h12) (.ref h13) v_partCount)), (h2, .inl (k0, 256, .inl v_sort_28)), (h3, .inl (k1, 256, .inl v_value_28)), (h4, .inl (k2, 256, .inl v_low_28)), (h5, .inl (k3, 256, .inl v_high_28)), (h6, .inl (k4, 256, .inl v_firstPart_28)), (h7, .inl (k5, 256, .inl v_nextPart_28)), (h1, .inr (5, oX2 a1_sort a1_value a1_name a1_pending a1_loopable a1_rowFirst a1_rowLast a1_rowCount a1_choiceFirst a1_choiceLast a1_choiceCount))] → va_S A s.heap H_b28 locs_b28 → lv_has ls_b28 2 [] → W p l e ({ frames := 3, cells := 0, slots := 0, locals := 73 } : Room) s m ([.ref h0, .ref h1]).toArray below meth c H_b28 locs_b28 0 0 QQ (F0 m 28 ls_b28 [.int s0_28]) := by
    intro s0_28 v_fault_28 v_faultPlace_28 v_count_28 v_sort_28 v_value_28 v_low_28 v_high_28 v_firstPart_28 v_nextPart_28 H_b28 locs_b28 ls_b28 w_b28 hP_b28 hD_b28 hS_b28 hl_b28
    unfold w_X6_choiceOf_28 at w_b28
    rw [hQQ]
    exact W.iret (v := s0_28) hx hb hr (fun t9 ht9 hW9 => ⟨⟨s0_28, s0_28, rfl, rfl, ⟨v_fault_28, v_faultPlace_28, v_count_28, v_sort_28, v_value_28, v_low_28, v_high_28, v_firstPart_28, v_nextPart_28, w_b28, by rw [ht9]; exact hP_b28, hD_b28⟩⟩, hS_b28.F ht9⟩) hS_b28.2.2 dX6_choiceOf_28
  refine lv_icmp_ne (tgt := 15) hx hb dX6_choiceOf_5 (by decide) (fun c_1 => ?_) (fun c_1 => ?_)
  · refine lv_aload_n hx hb dX6_choiceOf_15 rfl (lv_at hl 0 rfl) ?_
    refine lv_bipush (v := 6) hx hb dX6_choiceOf_16 (by decide) ?_
    refine lv_iconst (v := 0) hx hb dX6_choiceOf_18 (by decide) ?_
    refine lv_iconst (v := 0) hx hb dX6_choiceOf_19 (by decide) ?_
    refine lv_iconst (v := 0) hx hb dX6_choiceOf_20 (by decide) ?_
    refine lv_aload_n hx hb dX6_choiceOf_21 rfl (lv_at hl 1 rfl) ?_
    refine va_get (D := (dC, dI)) (ci := 5) (v := .int a1_choiceFirst) (C := RX2) (T := TX2) (N := 11) hx hb ht inX2 hown hK hP 7 rfl rfl 8 (by decide) (ht _ tw_407) (fun _ h9 => h9) rfl dX6_choiceOf_22 ?_
    have hPc_2 := hP.sub (ws' := [(h0, .inr (9, oX6 v_fault v_faultPlace (.ref h2) (.ref h3) (.ref h4) (.ref h5) (.ref h6) (.ref h7) v_count (.ref h8) v_depth (.ref h9) (.ref h10) v_at v_items (.ref h11) (.ref h12) (.ref h13) v_partCount)), (h2, .inl (k0, 256, .inl v_sort)), (h3, .inl (k1, 256, .inl v_value)), (h4, .inl (k2, 256, .inl v_low)), (h5, .inl (k3, 256, .inl v_high)), (h6, .inl (k4, 256, .inl v_firstPart)), (h7, .inl (k5, 256, .inl v_nextPart))]) [0, 1, 2, 3, 4, 5, 6] rfl
    have hDc_2 := hD.sub (ws' := [(h0, .inr (9, oX6 v_fault v_faultPlace (.ref h2) (.ref h3) (.ref h4) (.ref h5) (.ref h6) (.ref h7) v_count (.ref h8) v_depth (.ref h9) (.ref h10) v_at v_items (.ref h11) (.ref h12) (.ref h13) v_partCount)), (h2, .inl (k0, 256, .inl v_sort)), (h3, .inl (k1, 256, .inl v_value)), (h4, .inl (k2, 256, .inl v_low)), (h5, .inl (k3, 256, .inl v_high)), (h6, .inl (k4, 256, .inl v_firstPart)), (h7, .inl (k5, 256, .inl v_nextPart))]) [0, 1, 2, 3, 4, 5, 6] (by decide) rfl
    have hKc_2 := hK.sub (tys' := [(k0, .int), (k1, .int), (k2, .int), (k3, .int), (k4, .int), (k5, .int)]) [0, 1, 2, 3, 4, 5] rfl
    have hFc_2 := va_free (wc := [(h0, .inr (9, oX6 v_fault v_faultPlace (.ref h2) (.ref h3) (.ref h4) (.ref h5) (.ref h6) (.ref h7) v_count (.ref h8) v_depth (.ref h9) (.ref h10) v_at v_items (.ref h11) (.ref h12) (.ref h13) v_partCount)), (h2, .inl (k0, 256, .inl v_sort)), (h3, .inl (k1, 256, .inl v_value)), (h4, .inl (k2, 256, .inl v_low)), (h5, .inl (k3, 256, .inl v_high)), (h6, .inl (k4, 256, .inl v_firstPart)), (h7, .inl (k5, 256, .inl v_nextPart))]) hD hS hA [0, 1, 2, 3, 4, 5, 6] rfl
    refine va_calli (va_runV (As := [.int 6, .int 0, .int 0, .int 0, .int a1_choiceFirst]) (rest := []) ⟨hx, hb, hml, hown, ht⟩ (mt_X6_makeRound l dC dI h0 h2 h3 h4 h5 h6 h7 h8 h9 h10 h11 h12 h13 k0 k1 k2 k3 k4 k5 6 0 0 0 a1_choiceFirst v_fault v_faultPlace v_count v_depth v_at v_items v_partCount v_sort v_value v_low v_high v_firstPart v_nextPart _ (w.1 c_1) s.heap.size) (cwV 5 ht (goodV tw_923 tw_925 tw_6 tw_239 gw_X6_makeRound) rfl rfl rfl (by decide +kernel) ⟨Nat.le_of_ble_eq_true rfl, Nat.le_of_ble_eq_true rfl⟩) ⟨fun a U g mk q => by obtain ⟨q0, q1, qP, qK, qD⟩ := q; exact ⟨q0, q1, qP, va_K.moved (u := U) (U := U.calling g mk a) (Vm.Alike.refl U.vm) qK, qD⟩, va_recv hKc_2 hPc_2 (ci := 9) (q0 := 0) rfl rfl, fun U hU hW => ⟨rfl, by rw [hU], by rw [hU]; exact hPc_2, va_K.moved hW.alike hKc_2, hDc_2.weaken (fun _ _ _ _ => trivial)⟩⟩ rfl rfl hl.1 rfl (lv_room (Nat.le_of_ble_eq_true rfl)) dX6_choiceOf_25 ⟨Nat.le_of_ble_eq_true rfl, Nat.le_of_ble_eq_true rfl⟩) hS (fun q _ h => hFc_2 q h) hFc_2 (fun r_2 u_2 t_2 H_2 locs_2 ht_2 hvm_2 hw_2 hB_2 hz_2 hk_2 hS_2 => ?_)
    subst hw_2
    obtain ⟨r_2_0, r_2_1, r_2_2, r_2_3, r_2_4, r_2_5, r_2_6, r_2_7, r_2_8, w_2, hP1_2, hD1_2⟩ := hB_2
    rw [ht_2] at hP1_2
    obtain ⟨hP_2, hD_2⟩ := va_join (wr := [(h1, .inr (5, oX2 a1_sort a1_value a1_name a1_pending a1_loopable a1_rowFirst a1_rowLast a1_rowCount a1_choiceFirst a1_choiceLast a1_choiceCount))]) (w1 := [(h0, .inr (9, oX6 r_2_0 r_2_1 (.ref h2) (.ref h3) (.ref h4) (.ref h5) (.ref h6) (.ref h7) r_2_2 (.ref h8) v_depth (.ref h9) (.ref h10) v_at v_items (.ref h11) (.ref h12) (.ref h13) v_partCount)), (h2, .inl (k0, 256, .inl r_2_3)), (h3, .inl (k1, 256, .inl r_2_4)), (h4, .inl (k2, 256, .inl r_2_5)), (h5, .inl (k3, 256, .inl r_2_6)), (h6, .inl (k4, 256, .inl r_2_7)), (h7, .inl (k5, 256, .inl r_2_8))]) hP hD [0, 1, 2, 3, 4, 5, 6] [7] rfl rfl (by decide) (by decide) hk_2 hFc_2 hP1_2 hD1_2
    have hP_2 := hP_2.sub (ws' := [(h0, .inr (9, oX6 r_2_0 r_2_1 (.ref h2) (.ref h3) (.ref h4) (.ref h5) (.ref h6) (.ref h7) r_2_2 (.ref h8) v_depth (.ref h9) (.ref h10) v_at v_items (.ref h11) (.ref h12) (.ref h13) v_partCount)), (h2, .inl (k0, 256, .inl r_2_3)), (h3, .inl (k1, 256, .inl r_2_4)), (h4, .inl (k2, 256, .inl r_2_5)), (h5, .inl (k3, 256, .inl r_2_6)), (h6, .inl (k4, 256, .inl r_2_7)), (h7, .inl (k5, 256, .inl r_2_8)), (h1, .inr (5, oX2 a1_sort a1_value a1_name a1_pending a1_loopable a1_rowFirst a1_rowLast a1_rowCount a1_choiceFirst a1_choiceLast a1_choiceCount))]) [1, 2, 3, 4, 5, 6, 7, 0] rfl
    have hD_2 := hD_2.sub (ws' := [(h0, .inr (9, oX6 r_2_0 r_2_1 (.ref h2) (.ref h3) (.ref h4) (.ref h5) (.ref h6) (.ref h7) r_2_2 (.ref h8) v_depth (.ref h9) (.ref h10) v_at v_items (.ref h11) (.ref h12) (.ref h13) v_partCount)), (h2, .inl (k0, 256, .inl r_2_3)), (h3, .inl (k1, 256, .inl r_2_4)), (h4, .inl (k2, 256, .inl r_2_5)), (h5, .inl (k3, 256, .inl r_2_6)), (h6, .inl (k4, 256, .inl r_2_7)), (h7, .inl (k5, 256, .inl r_2_8)), (h1, .inr (5, oX2 a1_sort a1_value a1_name a1_pending a1_loopable a1_rowFirst a1_rowLast a1_rowCount a1_choiceFirst a1_choiceLast a1_choiceCount))]) [1, 2, 3, 4, 5, 6, 7, 0] (by decide) rfl
    clear hPc_2 hDc_2 hKc_2 hFc_2 hP1_2 hD1_2 hk_2 hz_2
    exact k_28 r_2 r_2_0 r_2_1 r_2_2 r_2_3 r_2_4 r_2_5 r_2_6 r_2_7 r_2_8 _ _ _ w_2 hP_2 hD_2 hS_2 (lv_sub hl [] rfl)
  · refine lv_aload_n hx hb dX6_choiceOf_8 rfl (lv_at hl 1 rfl) ?_
    refine va_get (D := (dC, dI)) (ci := 5) (v := .int a1_choiceFirst) (C := RX2) (T := TX2) (N := 11) hx hb ht inX2 hown hK hP 7 rfl rfl 8 (by decide) (ht _ tw_407) (fun _ h9 => h9) rfl dX6_choiceOf_9 ?_
    refine lv_goto (tgt := 28) hx hb dX6_choiceOf_12 (by decide) ?_
    exact k_28 a1_choiceFirst v_fault v_faultPlace v_count v_sort v_value v_low v_high v_firstPart v_nextPart _ _ _ (w.2 c_1) hP hD hS (lv_sub hl [] rfl)
