def w_X11_goOn_v1 (p1 : Int32) (v_openSlot : Int32) (Q : Int32 → Prop) : Prop :=
  w_X11_isStepCount p1 (fun r_1 => ((¬ r_1 = 0) → v_openSlot = (-1) ∧ Q (-5)) ∧ ((r_1 = 0) → Q (-4)))
set_option maxHeartbeats 4000000 in
set_option maxRecDepth 100000 in
theorem mt_X11_goOn_v1 (l : Launch) (dC : Nat → ClassId) (dI : Nat → Nat → Nat) (h0 h1 h2 h3 h4 h5 h6 h7 h8 h9 h10 h11 h12 : Nat) (p1 : Int32) (v_outHasNumbers : Bool) (v_faultPlace : Int32) (v_latestFinding : Int32) (v_latestSteps : Int32) (v_openSlot : Int32) (v_openSubject : Int32) (Q : Int32 → Prop) (w : w_X11_goOn_v1 p1 v_openSlot Q) (sz : Nat) : Met l yX11_goOn (WS yX11_goOn cX11_goOn 3 (some (.int))) ({ frames := 1, cells := 0, slots := 0, locals := 20 } : Room) (va_Pc [.ref h0, .int p1] (fun U => U.heap.size = sz ∧ va_P (dC, dI) vwCl [(h0, .inr (14, oX11 (.ref h1) (.ref h2) (.ref h3) (.ref h4) v_outHasNumbers (.ref h5) (.ref h6) (.ref h7) (.ref h8) (.ref h9) (.ref h10) (.ref h11) (.ref h12) v_faultPlace v_latestFinding v_latestSteps v_openSlot v_openSubject))] U.heap ∧ va_K (dC, dI) vwCl [] U ∧ va_D (fun _ => True) [(h0, .inr (14, oX11 (.ref h1) (.ref h2) (.ref h3) (.ref h4) v_outHasNumbers (.ref h5) (.ref h6) (.ref h7) (.ref h8) (.ref h9) (.ref h10) (.ref h11) (.ref h12) v_faultPlace v_latestFinding v_latestSteps v_openSlot v_openSubject))])) (va_Qi (fun (r u : Int32) => r = u) (fun (u : Int32) (t : State) => (Q u) ∧ va_P (dC, dI) vwCl [(h0, .inr (14, oX11 (.ref h1) (.ref h2) (.ref h3) (.ref h4) v_outHasNumbers (.ref h5) (.ref h6) (.ref h7) (.ref h8) (.ref h9) (.ref h10) (.ref h11) (.ref h12) v_faultPlace v_latestFinding v_latestSteps v_openSlot v_openSubject))] t.heap ∧ va_D (va_A [(h0, .inr (14, oX11 (.ref h1) (.ref h2) (.ref h3) (.ref h4) v_outHasNumbers (.ref h5) (.ref h6) (.ref h7) (.ref h8) (.ref h9) (.ref h10) (.ref h11) (.ref h12) v_faultPlace v_latestFinding v_latestSteps v_openSlot v_openSubject))] sz) [(h0, .inr (14, oX11 (.ref h1) (.ref h2) (.ref h3) (.ref h4) v_outHasNumbers (.ref h5) (.ref h6) (.ref h7) (.ref h8) (.ref h9) (.ref h10) (.ref h11) (.ref h12) v_faultPlace v_latestFinding v_latestSteps v_openSlot v_openSubject))]) (va_A [(h0, .inr (14, oX11 (.ref h1) (.ref h2) (.ref h3) (.ref h4) v_outHasNumbers (.ref h5) (.ref h6) (.ref h7) (.ref h8) (.ref h9) (.ref h10) (.ref h11) (.ref h12) v_faultPlace v_latestFinding v_latestSteps v_openSlot v_openSubject))] sz)) 0 0 (va_A [(h0, .inr (14, oX11 (.ref h1) (.ref h2) (.ref h3) (.ref h4) v_outHasNumbers (.ref h5) (.ref h6) (.ref h7) (.ref h8) (.ref h9) (.ref h10) (.ref h11) (.ref h12) v_faultPlace v_latestFinding v_latestSteps v_openSlot v_openSubject))] sz) := by
  refine Met.ofW (cc := cX11_goOn) (maxL := 3) (ret := (some (.int))) (by decide) rfl ?_
  intro p e s m args below meth c s₁ B hml hv
  obtain ⟨rfl, hsz, hP, hK, hD0⟩ := hv
  have hx := B.exec
  have hb := B.bytes
  have hr := B.returns
  have hts := atoms_spec (ws := WS yX11_goOn cX11_goOn 3 (some (.int))) B.pre
  have ht : ∀ w ∈ TW, w.before _ s = true := fun w h => hts w (List.mem_cons_of_mem _ h)
  have hown : s.vm.findClass "PatternWorkshop" = some m.cls := findClass_of_methodNamed B.named
  have hlocks := B.notSynchronized
  subst hsz
  have hD := hD0.self (sz := s.heap.size)
  generalize hAe : va_A [(h0, .inr (14, oX11 (.ref h1) (.ref h2) (.ref h3) (.ref h4) v_outHasNumbers (.ref h5) (.ref h6) (.ref h7) (.ref h8) (.ref h9) (.ref h10) (.ref h11) (.ref h12) v_faultPlace v_latestFinding v_latestSteps v_openSlot v_openSubject))] s.heap.size = A at hD ⊢
  have hA : ∀ q : Nat, s.heap.size ≤ q → A q := fun q h => by rw [← hAe]; exact Or.inr h
  have hS : va_S A s.heap s.heap [] := va_S.rf
  have hP : va_P (dC, dI) vwCl [(h0, .inr (14, oX11 (.ref h1) (.ref h2) (.ref h3) (.ref h4) v_outHasNumbers (.ref h5) (.ref h6) (.ref h7) (.ref h8) (.ref h9) (.ref h10) (.ref h11) (.ref h12) v_faultPlace v_latestFinding v_latestSteps v_openSlot v_openSubject))] s.heap := hP
  have hl := lv_entry ([.ref h0, .int p1]) (n := 3) (Nat.le_of_ble_eq_true rfl)
  rw [lg_entry_eq]
  generalize (lg_sl ([.ref h0, .int p1]) ++ List.replicate (3 - (lg_sl ([.ref h0, .int p1])).length) Slot.unset).toArray = ls at hl ⊢
  have hl : lv_has ls 3 [(0, .ref h0), (1, .int p1)] := hl
  clear hD0
  obtain ⟨QQ, hQQ⟩ : ∃ QQ, QQ = MQ below (va_Qi (fun (r u : Int32) => r = u) (fun (u : Int32) (t : State) => (Q u) ∧ va_P (dC, dI) vwCl [(h0, .inr (14, oX11 (.ref h1) (.ref h2) (.ref h3) (.ref h4) v_outHasNumbers (.ref h5) (.ref h6) (.ref h7) (.ref h8) (.ref h9) (.ref h10) (.ref h11) (.ref h12) v_faultPlace v_latestFinding v_latestSteps v_openSlot v_openSubject))] t.heap ∧ va_D A [(h0, .inr (14, oX11 (.ref h1) (.ref h2) (.ref h3) (.ref h4) v_outHasNumbers (.ref h5) (.ref h6) (.ref h7) (.ref h8) (.ref h9) (.ref h10) (.ref h11) (.ref h12) v_faultPlace v_latestFinding v_latestSteps v_openSlot v_openSubject))]) A) ([.ref h0, .int p1]).toArray s 0 0 A := ⟨_, rfl⟩
  show W p l e ({ frames := 1, cells := 0, slots := 0, locals := 20 } : Room) s m ([.ref h0, .int p1]).toArray below meth c s.heap [] 0 0 (MQ below (va_Qi (fun (r u : Int32) => r = u) (fun (u : Int32) (t : State) => (Q u) ∧ va_P (dC, dI) vwCl [(h0, .inr (14, oX11 (.ref h1) (.ref h2) (.ref h3) (.ref h4) v_outHasNumbers (.ref h5) (.ref h6) (.ref h7) (.ref h8) (.ref h9) (.ref h10) (.ref h11) (.ref h12) v_faultPlace v_latestFinding v_latestSteps v_openSlot v_openSubject))] t.heap ∧ va_D A [(h0, .inr (14, oX11 (.ref h1) (.ref h2) (.ref h3) (.ref h4) v_outHasNumbers (.ref h5) (.ref h6) (.ref h7) (.ref h8) (.ref h9) (.ref h10) (.ref h11) (.ref h12) v_faultPlace v_latestFinding v_latestSteps v_openSlot v_openSubject))]) A) ([.ref h0, .int p1]).toArray s 0 0 A) (F0 m 0 ls [])
  rw [← hQQ]
  unfold w_X11_goOn_v1 at w
  refine lv_iload_n hx hb dX11_goOn_0 rfl (lv_at hl 1 rfl) ?_
  have hPc_1 := hP.sub (ws' := []) [] rfl
  have hDc_1 := hD.sub (ws' := []) [] (by decide) rfl
  have hKc_1 := hK.sub (tys' := []) [] rfl
  have hFc_1 := va_free (wc := []) hD hS hA [] rfl
  refine va_calli (va_runS (As := [.int p1]) (rest := []) ⟨hx, hb, hml, hown, ht⟩ (mt_X11_isStepCount l dC dI p1 _ w s.heap.size) (cwS 1 ht (goodS tw_1437 tw_1438 tw_236 gw_X11_isStepCount) rfl rfl rfl (by decide +kernel) ⟨Nat.le_of_ble_eq_true rfl, Nat.le_of_ble_eq_true rfl⟩) ⟨fun a U g mk q => by obtain ⟨q0, q1, qP, qK, qD⟩ := q; exact ⟨q0, q1, qP, va_K.moved (u := U) (U := U.calling g mk a) (Vm.Alike.refl U.vm) qK, qD⟩, fun U hU hW => ⟨rfl, by rw [hU], by rw [hU]; exact hPc_1, va_K.moved hW.alike hKc_1, hDc_1.weaken (fun _ _ _ _ => trivial)⟩⟩ rfl rfl hl.1 rfl (lv_room (Nat.le_of_ble_eq_true rfl)) dX11_goOn_1 ⟨Nat.le_of_ble_eq_true rfl, Nat.le_of_ble_eq_true rfl⟩) hS (fun q _ h => hFc_1 q h) hFc_1 (fun r_1 u_1 t_1 H_1 locs_1 ht_1 hvm_1 hw_1 hB_1 hz_1 hk_1 hS_1 => ?_)
  subst hw_1
  obtain ⟨w_1, hP1_1, hD1_1⟩ := hB_1
  rw [ht_1] at hP1_1
  obtain ⟨hP_1, hD_1⟩ := va_join (wr := [(h0, .inr (14, oX11 (.ref h1) (.ref h2) (.ref h3) (.ref h4) v_outHasNumbers (.ref h5) (.ref h6) (.ref h7) (.ref h8) (.ref h9) (.ref h10) (.ref h11) (.ref h12) v_faultPlace v_latestFinding v_latestSteps v_openSlot v_openSubject))]) (w1 := []) hP hD [] [0] rfl rfl (by decide) (by decide) hk_1 hFc_1 hP1_1 hD1_1
  have hP_1 := hP_1.sub (ws' := [(h0, .inr (14, oX11 (.ref h1) (.ref h2) (.ref h3) (.ref h4) v_outHasNumbers (.ref h5) (.ref h6) (.ref h7) (.ref h8) (.ref h9) (.ref h10) (.ref h11) (.ref h12) v_faultPlace v_latestFinding v_latestSteps v_openSlot v_openSubject))]) [0] rfl
  have hD_1 := hD_1.sub (ws' := [(h0, .inr (14, oX11 (.ref h1) (.ref h2) (.ref h3) (.ref h4) v_outHasNumbers (.ref h5) (.ref h6) (.ref h7) (.ref h8) (.ref h9) (.ref h10) (.ref h11) (.ref h12) v_faultPlace v_latestFinding v_latestSteps v_openSlot v_openSubject))]) [0] (by decide) rfl
  clear hPc_1 hDc_1 hKc_1 hFc_1 hP1_1 hD1_1 hk_1 hz_1
  refine lv_if_ne (tgt := 10) hx hb dX11_goOn_4 (by decide) (fun c_2 => ?_) (fun c_2 => ?_)
  · refine lv_aload_n hx hb dX11_goOn_10 rfl (lv_at hl 0 rfl) ?_
    refine va_get (D := (dC, dI)) (ci := 14) (v := .int v_openSlot) (C := RX11) (T := TX11) (N := 18) hx hb ht inX11 hown hK hP_1 0 rfl rfl 16 (by decide) (ht _ tw_816) (fun _ h9 => h9) rfl dX11_goOn_11 ?_
    refine lv_iconst (v := (-1)) hx hb dX11_goOn_14 (by decide) ?_
    refine lv_icmp_ne (tgt := 21) hx hb dX11_goOn_15 (by decide) (fun c_ => absurd ((w_1.1 c_2).1) c_) (fun _ => ?_)
    refine lv_bipush (v := (-5)) hx hb dX11_goOn_18 (by decide) ?_
    rw [hQQ]
    exact W.iret (v := (-5)) hx hb hr (fun t9 ht9 hW9 => ⟨⟨(-5), (-5), rfl, rfl, ⟨(w_1.1 c_2).2, by rw [ht9]; exact hP_1, hD_1⟩⟩, hS_1.F ht9⟩) hS_1.2.2 dX11_goOn_20
  · refine lv_bipush (v := (-4)) hx hb dX11_goOn_7 (by decide) ?_
    rw [hQQ]
    exact W.iret (v := (-4)) hx hb hr (fun t9 ht9 hW9 => ⟨⟨(-4), (-4), rfl, rfl, ⟨w_1.2 c_2, by rw [ht9]; exact hP_1, hD_1⟩⟩, hS_1.F ht9⟩) hS_1.2.2 dX11_goOn_9
