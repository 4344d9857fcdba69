def w_X11_place (v_faultPlace : Int32) (Q : Int32 → Prop) : Prop :=
  Q v_faultPlace
set_option maxHeartbeats 4000000 in
set_option maxRecDepth 100000 in
theorem mt_X11_place (l : Launch) (dC : Nat → ClassId) (dI : Nat → Nat → Nat) (h0 h1 h2 h3 h4 h5 h6 h7 h8 h9 h10 h11 h12 : Nat) (v_outHasNumbers : Bool) (v_faultPlace : Int32) (v_latestFinding : Int32) (v_latestSteps : Int32) (v_openSlot : Int32) (v_openSubject : Int32) (Q : Int32 → Prop) (w : w_X11_place v_faultPlace Q) (sz : Nat) : Met l yX11_place (WS yX11_place cX11_place 1 (some (.int))) ({ frames := 0, cells := 0, slots := 0, locals := 0 } : Room) (va_Pc [.ref h0] (fun U => U.heap.size = sz ∧ va_P (dC, dI) vwCl [(h0, .inr (14, oX11 (.ref h1) (.ref h2) (.ref h3) (.ref h4) v_outHasNumbers (.ref h5) (.ref h6) (.ref h7) (.ref h8) (.ref h9) (.ref h10) (.ref h11) (.ref h12) v_faultPlace v_latestFinding v_latestSteps v_openSlot v_openSubject))] U.heap ∧ va_K (dC, dI) vwCl [] U ∧ va_D (fun _ => True) [(h0, .inr (14, oX11 (.ref h1) (.ref h2) (.ref h3) (.ref h4) v_outHasNumbers (.ref h5) (.ref h6) (.ref h7) (.ref h8) (.ref h9) (.ref h10) (.ref h11) (.ref h12) v_faultPlace v_latestFinding v_latestSteps v_openSlot v_openSubject))])) (va_Qi (fun (r u : Int32) => r = u) (fun (u : Int32) (t : State) => (Q u) ∧ va_P (dC, dI) vwCl [(h0, .inr (14, oX11 (.ref h1) (.ref h2) (.ref h3) (.ref h4) v_outHasNumbers (.ref h5) (.ref h6) (.ref h7) (.ref h8) (.ref h9) (.ref h10) (.ref h11) (.ref h12) v_faultPlace v_latestFinding v_latestSteps v_openSlot v_openSubject))] t.heap ∧ va_D (va_A [(h0, .inr (14, oX11 (.ref h1) (.ref h2) (.ref h3) (.ref h4) v_outHasNumbers (.ref h5) (.ref h6) (.ref h7) (.ref h8) (.ref h9) (.ref h10) (.ref h11) (.ref h12) v_faultPlace v_latestFinding v_latestSteps v_openSlot v_openSubject))] sz) [(h0, .inr (14, oX11 (.ref h1) (.ref h2) (.ref h3) (.ref h4) v_outHasNumbers (.ref h5) (.ref h6) (.ref h7) (.ref h8) (.ref h9) (.ref h10) (.ref h11) (.ref h12) v_faultPlace v_latestFinding v_latestSteps v_openSlot v_openSubject))]) (va_A [(h0, .inr (14, oX11 (.ref h1) (.ref h2) (.ref h3) (.ref h4) v_outHasNumbers (.ref h5) (.ref h6) (.ref h7) (.ref h8) (.ref h9) (.ref h10) (.ref h11) (.ref h12) v_faultPlace v_latestFinding v_latestSteps v_openSlot v_openSubject))] sz)) 0 0 (va_A [(h0, .inr (14, oX11 (.ref h1) (.ref h2) (.ref h3) (.ref h4) v_outHasNumbers (.ref h5) (.ref h6) (.ref h7) (.ref h8) (.ref h9) (.ref h10) (.ref h11) (.ref h12) v_faultPlace v_latestFinding v_latestSteps v_openSlot v_openSubject))] sz) := by
  refine Met.ofW (cc := cX11_place) (maxL := 1) (ret := (some (.int))) (by decide) rfl ?_
  intro p e s m args below meth c s₁ B hml hv
  obtain ⟨rfl, hsz, hP, hK, hD0⟩ := hv
  have hx := B.exec
  have hb := B.bytes
  have hr := B.returns
  have hts := atoms_spec (ws := WS yX11_place cX11_place 1 (some (.int))) B.pre
  have ht : ∀ w ∈ TW, w.before _ s = true := fun w h => hts w (List.mem_cons_of_mem _ h)
  have hown : s.vm.findClass "PatternWorkshop" = some m.cls := findClass_of_methodNamed B.named
  have hlocks := B.notSynchronized
  subst hsz
  have hD := hD0.self (sz := s.heap.size)
  generalize hAe : va_A [(h0, .inr (14, oX11 (.ref h1) (.ref h2) (.ref h3) (.ref h4) v_outHasNumbers (.ref h5) (.ref h6) (.ref h7) (.ref h8) (.ref h9) (.ref h10) (.ref h11) (.ref h12) v_faultPlace v_latestFinding v_latestSteps v_openSlot v_openSubject))] s.heap.size = A at hD ⊢
  have hA : ∀ q : Nat, s.heap.size ≤ q → A q := fun q h => by rw [← hAe]; exact Or.inr h
  have hS : va_S A s.heap s.heap [] := va_S.rf
  have hP : va_P (dC, dI) vwCl [(h0, .inr (14, oX11 (.ref h1) (.ref h2) (.ref h3) (.ref h4) v_outHasNumbers (.ref h5) (.ref h6) (.ref h7) (.ref h8) (.ref h9) (.ref h10) (.ref h11) (.ref h12) v_faultPlace v_latestFinding v_latestSteps v_openSlot v_openSubject))] s.heap := hP
  have hl := lv_entry ([.ref h0]) (n := 1) (Nat.le_of_ble_eq_true rfl)
  rw [lg_entry_eq]
  generalize (lg_sl ([.ref h0]) ++ List.replicate (1 - (lg_sl ([.ref h0])).length) Slot.unset).toArray = ls at hl ⊢
  have hl : lv_has ls 1 [(0, .ref h0)] := hl
  clear hD0
  obtain ⟨QQ, hQQ⟩ : ∃ QQ, QQ = MQ below (va_Qi (fun (r u : Int32) => r = u) (fun (u : Int32) (t : State) => (Q u) ∧ va_P (dC, dI) vwCl [(h0, .inr (14, oX11 (.ref h1) (.ref h2) (.ref h3) (.ref h4) v_outHasNumbers (.ref h5) (.ref h6) (.ref h7) (.ref h8) (.ref h9) (.ref h10) (.ref h11) (.ref h12) v_faultPlace v_latestFinding v_latestSteps v_openSlot v_openSubject))] t.heap ∧ va_D A [(h0, .inr (14, oX11 (.ref h1) (.ref h2) (.ref h3) (.ref h4) v_outHasNumbers (.ref h5) (.ref h6) (.ref h7) (.ref h8) (.ref h9) (.ref h10) (.ref h11) (.ref h12) v_faultPlace v_latestFinding v_latestSteps v_openSlot v_openSubject))]) A) ([.ref h0]).toArray s 0 0 A := ⟨_, rfl⟩
  show W p l e ({ frames := 0, cells := 0, slots := 0, locals := 0 } : Room) s m ([.ref h0]).toArray below meth c s.heap [] 0 0 (MQ below (va_Qi (fun (r u : Int32) => r = u) (fun (u : Int32) (t : State) => (Q u) ∧ va_P (dC, dI) vwCl [(h0, .inr (14, oX11 (.ref h1) (.ref h2) (.ref h3) (.ref h4) v_outHasNumbers (.ref h5) (.ref h6) (.ref h7) (.ref h8) (.ref h9) (.ref h10) (.ref h11) (.ref h12) v_faultPlace v_latestFinding v_latestSteps v_openSlot v_openSubject))] t.heap ∧ va_D A [(h0, .inr (14, oX11 (.ref h1) (.ref h2) (.ref h3) (.ref h4) v_outHasNumbers (.ref h5) (.ref h6) (.ref h7) (.ref h8) (.ref h9) (.ref h10) (.ref h11) (.ref h12) v_faultPlace v_latestFinding v_latestSteps v_openSlot v_openSubject))]) A) ([.ref h0]).toArray s 0 0 A) (F0 m 0 ls [])
  rw [← hQQ]
  unfold w_X11_place at w
  refine lv_aload_n hx hb dX11_place_0 rfl (lv_at hl 0 rfl) ?_
  refine va_get (D := (dC, dI)) (ci := 14) (v := .int v_faultPlace) (C := RX11) (T := TX11) (N := 18) hx hb ht inX11 hown hK hP 0 rfl rfl 13 (by decide) (ht _ tw_813) (fun _ h9 => h9) rfl dX11_place_1 ?_
  rw [hQQ]
  exact W.iret (v := v_faultPlace) hx hb hr (fun t9 ht9 hW9 => ⟨⟨v_faultPlace, v_faultPlace, rfl, rfl, ⟨w, by rw [ht9]; exact hP, hD⟩⟩, hS.F ht9⟩) hS.2.2 dX11_place_4
def w_X11_steps (v_latestSteps : Int32) (Q : Int32 → Prop) : Prop :=
  Q v_latestSteps
set_option maxHeartbeats 4000000 in
set_option maxRecDepth 100000 in
theorem mt_X11_steps (l : Launch) (dC : Nat → ClassId) (dI : Nat → Nat → Nat) (h0 h1 h2 h3 h4 h5 h6 h7 h8 h9 h10 h11 h12 : Nat) (v_outHasNumbers : Bool) (v_faultPlace : Int32) (v_latestFinding : Int32) (v_latestSteps : Int32) (v_openSlot : Int32) (v_openSubject : Int32) (Q : Int32 → Prop) (w : w_X11_steps v_latestSteps Q) (sz : Nat) : Met l yX11_steps (WS yX11_steps cX11_steps 1 (some (.int))) ({ frames := 0, cells := 0, slots := 0, locals := 0 } : Room) (va_Pc [.ref h0] (fun U => U.heap.size = sz ∧ va_P (dC, dI) vwCl [(h0, .inr (14, oX11 (.ref h1) (.ref h2) (.ref h3) (.ref h4) v_outHasNumbers (.ref h5) (.ref h6) (.ref h7) (.ref h8) (.ref h9) (.ref h10) (.ref h11) (.ref h12) v_faultPlace v_latestFinding v_latestSteps v_openSlot v_openSubject))] U.heap ∧ va_K (dC, dI) vwCl [] U ∧ va_D (fun _ => True) [(h0, .inr (14, oX11 (.ref h1) (.ref h2) (.ref h3) (.ref h4) v_outHasNumbers (.ref h5) (.ref h6) (.ref h7) (.ref h8) (.ref h9) (.ref h10) (.ref h11) (.ref h12) v_faultPlace v_latestFinding v_latestSteps v_openSlot v_openSubject))])) (va_Qi (fun (r u : Int32) => r = u) (fun (u : Int32) (t : State) => (Q u) ∧ va_P (dC, dI) vwCl [(h0, .inr (14, oX11 (.ref h1) (.ref h2) (.ref h3) (.ref h4) v_outHasNumbers (.ref h5) (.ref h6) (.ref h7) (.ref h8) (.ref h9) (.ref h10) (.ref h11) (.ref h12) v_faultPlace v_latestFinding v_latestSteps v_openSlot v_openSubject))] t.heap ∧ va_D (va_A [(h0, .inr (14, oX11 (.ref h1) (.ref h2) (.ref h3) (.ref h4) v_outHasNumbers (.ref h5) (.ref h6) (.ref h7) (.ref h8) (.ref h9) (.ref h10) (.ref h11) (.ref h12) v_faultPlace v_latestFinding v_latestSteps v_openSlot v_openSubject))] sz) [(h0, .inr (14, oX11 (.ref h1) (.ref h2) (.ref h3) (.ref h4) v_outHasNumbers (.ref h5) (.ref h6) (.ref h7) (.ref h8) (.ref h9) (.ref h10) (.ref h11) (.ref h12) v_faultPlace v_latestFinding v_latestSteps v_openSlot v_openSubject))]) (va_A [(h0, .inr (14, oX11 (.ref h1) (.ref h2) (.ref h3) (.ref h4) v_outHasNumbers (.ref h5) (.ref h6) (.ref h7) (.ref h8) (.ref h9) (.ref h10) (.ref h11) (.ref h12) v_faultPlace v_latestFinding v_latestSteps v_openSlot v_openSubject))] sz)) 0 0 (va_A [(h0, .inr (14, oX11 (.ref h1) (.ref h2) (.ref h3) (.ref h4) v_outHasNumbers (.ref h5) (.ref h6) (.ref h7) (.ref h8) (.ref h9) (.ref h10) (.ref h11) (.ref h12) v_faultPlace v_latestFinding v_latestSteps v_openSlot v_openSubject))] sz) := by
  refine Met.ofW (cc := cX11_steps) (maxL := 1) (ret := (some (.int))) (by decide) rfl ?_
  intro p e s m args below meth c s₁ B hml hv
  obtain ⟨rfl, hsz, hP, hK, hD0⟩ := hv
  have hx := B.exec
  have hb := B.bytes
  have hr := B.returns
  have hts := atoms_spec (ws := WS yX11_steps cX11_steps 1 (some (.int))) B.pre
  have ht : ∀ w ∈ TW, w.before _ s = true := fun w h => hts w (List.mem_cons_of_mem _ h)
  have hown : s.vm.findClass "PatternWorkshop" = some m.cls := findClass_of_methodNamed B.named
  have hlocks := B.notSynchronized
  subst hsz
  have hD := hD0.self (sz := s.heap.size)
  generalize hAe : va_A [(h0, .inr (14, oX11 (.ref h1) (.ref h2) (.ref h3) (.ref h4) v_outHasNumbers (.ref h5) (.ref h6) (.ref h7) (.ref h8) (.ref h9) (.ref h10) (.ref h11) (.ref h12) v_faultPlace v_latestFinding v_latestSteps v_openSlot v_openSubject))] s.heap.size = A at hD ⊢
  have hA : ∀ q : Nat, s.heap.size ≤ q → A q := fun q h => by rw [← hAe]; exact Or.inr h
  have hS : va_S A s.heap s.heap [] := va_S.rf
  have hP : va_P (dC, dI) vwCl [(h0, .inr (14, oX11 (.ref h1) (.ref h2) (.ref h3) (.ref h4) v_outHasNumbers (.ref h5) (.ref h6) (.ref h7) (.ref h8) (.ref h9) (.ref h10) (.ref h11) (.ref h12) v_faultPlace v_latestFinding v_latestSteps v_openSlot v_openSubject))] s.heap := hP
  have hl := lv_entry ([.ref h0]) (n := 1) (Nat.le_of_ble_eq_true rfl)
  rw [lg_entry_eq]
  generalize (lg_sl ([.ref h0]) ++ List.replicate (1 - (lg_sl ([.ref h0])).length) Slot.unset).toArray = ls at hl ⊢
  have hl : lv_has ls 1 [(0, .ref h0)] := hl
  clear hD0
  obtain ⟨QQ, hQQ⟩ : ∃ QQ, QQ = MQ below (va_Qi (fun (r u : Int32) => r = u) (fun (u : Int32) (t : State) => (Q u) ∧ va_P (dC, dI) vwCl [(h0, .inr (14, oX11 (.ref h1) (.ref h2) (.ref h3) (.ref h4) v_outHasNumbers (.ref h5) (.ref h6) (.ref h7) (.ref h8) (.ref h9) (.ref h10) (.ref h11) (.ref h12) v_faultPlace v_latestFinding v_latestSteps v_openSlot v_openSubject))] t.heap ∧ va_D A [(h0, .inr (14, oX11 (.ref h1) (.ref h2) (.ref h3) (.ref h4) v_outHasNumbers (.ref h5) (.ref h6) (.ref h7) (.ref h8) (.ref h9) (.ref h10) (.ref h11) (.ref h12) v_faultPlace v_latestFinding v_latestSteps v_openSlot v_openSubject))]) A) ([.ref h0]).toArray s 0 0 A := ⟨_, rfl⟩
  show W p l e ({ frames := 0, cells := 0, slots := 0, locals := 0 } : Room) s m ([.ref h0]).toArray below meth c s.heap [] 0 0 (MQ below (va_Qi (fun (r u : Int32) => r = u) (fun (u : Int32) (t : State) => (Q u) ∧ va_P (dC, dI) vwCl [(h0, .inr (14, oX11 (.ref h1) (.ref h2) (.ref h3) (.ref h4) v_outHasNumbers (.ref h5) (.ref h6) (.ref h7) (.ref h8) (.ref h9) (.ref h10) (.ref h11) (.ref h12) v_faultPlace v_latestFinding v_latestSteps v_openSlot v_openSubject))] t.heap ∧ va_D A [(h0, .inr (14, oX11 (.ref h1) (.ref h2) (.ref h3) (.ref h4) v_outHasNumbers (.ref h5) (.ref h6) (.ref h7) (.ref h8) (.ref h9) (.ref h10) (.ref h11) (.ref h12) v_faultPlace v_latestFinding v_latestSteps v_openSlot v_openSubject))]) A) ([.ref h0]).toArray s 0 0 A) (F0 m 0 ls [])
  rw [← hQQ]
  unfold w_X11_steps at w
  refine lv_aload_n hx hb dX11_steps_0 rfl (lv_at hl 0 rfl) ?_
  refine va_get (D := (dC, dI)) (ci := 14) (v := .int v_latestSteps) (C := RX11) (T := TX11) (N := 18) hx hb ht inX11 hown hK hP 0 rfl rfl 15 (by decide) (ht _ tw_815) (fun _ h9 => h9) rfl dX11_steps_1 ?_
  rw [hQQ]
  exact W.iret (v := v_latestSteps) hx hb hr (fun t9 ht9 hW9 => ⟨⟨v_latestSteps, v_latestSteps, rfl, rfl, ⟨w, by rw [ht9]; exact hP, hD⟩⟩, hS.F ht9⟩) hS.2.2 dX11_steps_4
def w_X11_finding (v_latestFinding : Int32) (Q : Int32 → Prop) : Prop :=
  Q v_latestFinding
set_option maxHeartbeats 4000000 in
set_option maxRecDepth 100000 in
theorem mt_X11_finding (l : Launch) (dC : Nat → ClassId) (dI : Nat → Nat → Nat) (h0 h1 h2 h3 h4 h5 h6 h7 h8 h9 h10 h11 h12 : Nat) (v_outHasNumbers : Bool) (v_faultPlace : Int32) (v_latestFinding : Int32) (v_latestSteps : Int32) (v_openSlot : Int32) (v_openSubject : Int32) (Q : Int32 → Prop) (w : w_X11_finding v_latestFinding Q) (sz : Nat) : Met l yX11_finding (WS yX11_finding cX11_finding 1 (some (.int))) ({ frames := 0, cells := 0, slots := 0, locals := 0 } : Room) (va_Pc [.ref h0] (fun U => U.heap.size = sz ∧ va_P (dC, dI) vwCl [(h0, .inr (14, oX11 (.ref h1) (.ref h2) (.ref h3) (.ref h4) v_outHasNumbers (.ref h5) (.ref h6) (.ref h7) (.ref h8) (.ref h9) (.ref h10) (.ref h11) (.ref h12) v_faultPlace v_latestFinding v_latestSteps v_openSlot v_openSubject))] U.heap ∧ va_K (dC, dI) vwCl [] U ∧ va_D (fun _ => True) [(h0, .inr (14, oX11 (.ref h1) (.ref h2) (.ref h3) (.ref h4) v_outHasNumbers (.ref h5) (.ref h6) (.ref h7) (.ref h8) (.ref h9) (.ref h10) (.ref h11) (.ref h12) v_faultPlace v_latestFinding v_latestSteps v_openSlot v_openSubject))])) (va_Qi (fun (r u : Int32) => r = u) (fun (u : Int32) (t : State) => (Q u) ∧ va_P (dC, dI) vwCl [(h0, .inr (14, oX11 (.ref h1) (.ref h2) (.ref h3) (.ref h4) v_outHasNumbers (.ref h5) (.ref h6) (.ref h7) (.ref h8) (.ref h9) (.ref h10) (.ref h11) (.ref h12) v_faultPlace v_latestFinding v_latestSteps v_openSlot v_openSubject))] t.heap ∧ va_D (va_A [(h0, .inr (14, oX11 (.ref h1) (.ref h2) (.ref h3) (.ref h4) v_outHasNumbers (.ref h5) (.ref h6) (.ref h7) (.ref h8) (.ref h9) (.ref h10) (.ref h11) (.ref h12) v_faultPlace v_latestFinding v_latestSteps v_openSlot v_openSubject))] sz) [(h0, .inr (14, oX11 (.ref h1) (.ref h2) (.ref h3) (.ref h4) v_outHasNumbers (.ref h5) (.ref h6) (.ref h7) (.ref h8) (.ref h9) (.ref h10) (.ref h11) (.ref h12) v_faultPlace v_latestFinding v_latestSteps v_openSlot v_openSubject))]) (va_A [(h0, .inr (14, oX11 (.ref h1) (.ref h2) (.ref h3) (.ref h4) v_outHasNumbers (.ref h5) (.ref h6) (.ref h7) (.ref h8) (.ref h9) (.ref h10) (.ref h11) (.ref h12) v_faultPlace v_latestFinding v_latestSteps v_openSlot v_openSubject))] sz)) 0 0 (va_A [(h0, .inr (14, oX11 (.ref h1) (.ref h2) (.ref h3) (.ref h4) v_outHasNumbers (.ref h5) (.ref h6) (.ref h7) (.ref h8) (.ref h9) (.ref h10) (.ref h11) (.ref h12) v_faultPlace v_latestFinding v_latestSteps v_openSlot v_openSubject))] sz) := by
  refine Met.ofW (cc := cX11_finding) (maxL := 1) (ret := (some (.int))) (by decide) rfl ?_
  intro p e s m args below meth c s₁ B hml hv
  obtain ⟨rfl, hsz, hP, hK, hD0⟩ := hv
  have hx := B.exec
  have hb := B.bytes
  have hr := B.returns
  have hts := atoms_spec (ws := WS yX11_finding cX11_finding 1 (some (.int))) B.pre
  have ht : ∀ w ∈ TW, w.before _ s = true := fun w h => hts w (List.mem_cons_of_mem _ h)
  have hown : s.vm.findClass "PatternWorkshop" = some m.cls := findClass_of_methodNamed B.named
  have hlocks := B.notSynchronized
  subst hsz
  have hD := hD0.self (sz := s.heap.size)
  generalize hAe : va_A [(h0, .inr (14, oX11 (.ref h1) (.ref h2) (.ref h3) (.ref h4) v_outHasNumbers (.ref h5) (.ref h6) (.ref h7) (.ref h8) (.ref h9) (.ref h10) (.ref h11) (.ref h12) v_faultPlace v_latestFinding v_latestSteps v_openSlot v_openSubject))] s.heap.size = A at hD ⊢
  have hA : ∀ q : Nat, s.heap.size ≤ q → A q := fun q h => by rw [← hAe]; exact Or.inr h
  have hS : va_S A s.heap s.heap [] := va_S.rf
  have hP : va_P (dC, dI) vwCl [(h0, .inr (14, oX11 (.ref h1) (.ref h2) (.ref h3) (.ref h4) v_outHasNumbers (.ref h5) (.ref h6) (.ref h7) (.ref h8) (.ref h9) (.ref h10) (.ref h11) (.ref h12) v_faultPlace v_latestFinding v_latestSteps v_openSlot v_openSubject))] s.heap := hP
  have hl := lv_entry ([.ref h0]) (n := 1) (Nat.le_of_ble_eq_true rfl)
  rw [lg_entry_eq]
  generalize (lg_sl ([.ref h0]) ++ List.replicate (1 - (lg_sl ([.ref h0])).length) Slot.unset).toArray = ls at hl ⊢
  have hl : lv_has ls 1 [(0, .ref h0)] := hl
  clear hD0
  obtain ⟨QQ, hQQ⟩ : ∃ QQ, QQ = MQ below (va_Qi (fun (r u : Int32) => r = u) (fun (u : Int32) (t : State) => (Q u) ∧ va_P (dC, dI) vwCl [(h0, .inr (14, oX11 (.ref h1) (.ref h2) (.ref h3) (.ref h4) v_outHasNumbers (.ref h5) (.ref h6) (.ref h7) (.ref h8) (.ref h9) (.ref h10) (.ref h11) (.ref h12) v_faultPlace v_latestFinding v_latestSteps v_openSlot v_openSubject))] t.heap ∧ va_D A [(h0, .inr (14, oX11 (.ref h1) (.ref h2) (.ref h3) (.ref h4) v_outHasNumbers (.ref h5) (.ref h6) (.ref h7) (.ref h8) (.ref h9) (.ref h10) (.ref h11) (.ref h12) v_faultPlace v_latestFinding v_latestSteps v_openSlot v_openSubject))]) A) ([.ref h0]).toArray s 0 0 A := ⟨_, rfl⟩
  show W p l e ({ frames := 0, cells := 0, slots := 0, locals := 0 } : Room) s m ([.ref h0]).toArray below meth c s.heap [] 0 0 (MQ below (va_Qi (fun (r u : Int32) => r = u) (fun (u : Int32) (t : State) => (Q u) ∧ va_P (dC, dI) vwCl [(h0, .inr (14, oX11 (.ref h1) (.ref h2) (.ref h3) (.ref h4) v_outHasNumbers (.ref h5) (.ref h6) (.ref h7) (.ref h8) (.ref h9) (.ref h10) (.ref h11) (.ref h12) v_faultPlace v_latestFinding v_latestSteps v_openSlot v_openSubject))] t.heap ∧ va_D A [(h0, .inr (14, oX11 (.ref h1) (.ref h2) (.ref h3) (.ref h4) v_outHasNumbers (.ref h5) (.ref h6) (.ref h7) (.ref h8) (.ref h9) (.ref h10) (.ref h11) (.ref h12) v_faultPlace v_latestFinding v_latestSteps v_openSlot v_openSubject))]) A) ([.ref h0]).toArray s 0 0 A) (F0 m 0 ls [])
  rw [← hQQ]
  unfold w_X11_finding at w
  refine lv_aload_n hx hb dX11_finding_0 rfl (lv_at hl 0 rfl) ?_
  refine va_get (D := (dC, dI)) (ci := 14) (v := .int v_latestFinding) (C := RX11) (T := TX11) (N := 18) hx hb ht inX11 hown hK hP 0 rfl rfl 14 (by decide) (ht _ tw_814) (fun _ h9 => h9) rfl dX11_finding_1 ?_
  rw [hQQ]
  exact W.iret (v := v_latestFinding) hx hb hr (fun t9 ht9 hW9 => ⟨⟨v_latestFinding, v_latestFinding, rfl, rfl, ⟨w, by rw [ht9]; exact hP, hD⟩⟩, hS.F ht9⟩) hS.2.2 dX11_finding_4
def w_X11_endSearch (Q : Int32 → Int32 → Prop) : Prop :=
  Q  (-1) (-1)
set_option maxHeartbeats 4000000 in
set_option maxRecDepth 100000 in
theorem mt_X11_endSearch (l : Launch) (dC : Nat → ClassId) (dI : Nat → Nat → Nat) (h0 h1 h2 h3 h4 h5 h6 h7 h8 h9 h10 h11 h12 : Nat) (v_outHasNumbers : Bool) (v_faultPlace : Int32) (v_latestFinding : Int32) (v_latestSteps : Int32) (v_openSlot : Int32) (v_openSubject : Int32) (Q : Int32 → Int32 → Prop) (w : w_X11_endSearch  Q) (sz : Nat) : Met l yX11_endSearch (WS yX11_endSearch cX11_endSearch 1 none) ({ frames := 0, cells := 0, slots := 0, locals := 0 } : Room) (va_Pc [.ref h0] (fun U => U.heap.size = sz ∧ va_P (dC, dI) vwCl [(h0, .inr (14, oX11 (.ref h1) (.ref h2) (.ref h3) (.ref h4) v_outHasNumbers (.ref h5) (.ref h6) (.ref h7) (.ref h8) (.ref h9) (.ref h10) (.ref h11) (.ref h12) v_faultPlace v_latestFinding v_latestSteps v_openSlot v_openSubject))] U.heap ∧ va_K (dC, dI) vwCl [] U ∧ va_D (fun _ => True) [(h0, .inr (14, oX11 (.ref h1) (.ref h2) (.ref h3) (.ref h4) v_outHasNumbers (.ref h5) (.ref h6) (.ref h7) (.ref h8) (.ref h9) (.ref h10) (.ref h11) (.ref h12) v_faultPlace v_latestFinding v_latestSteps v_openSlot v_openSubject))])) (va_Qv (fun (u : Nat) => u = 0) (fun (_ : Nat) (t : State) => ∃ (ov_openSlot : Int32), ∃ (ov_openSubject : Int32), (Q ov_openSlot ov_openSubject) ∧ va_P (dC, dI) vwCl [(h0, .inr (14, oX11 (.ref h1) (.ref h2) (.ref h3) (.ref h4) v_outHasNumbers (.ref h5) (.ref h6) (.ref h7) (.ref h8) (.ref h9) (.ref h10) (.ref h11) (.ref h12) v_faultPlace v_latestFinding v_latestSteps ov_openSlot ov_openSubject))] t.heap ∧ va_D (va_A [(h0, .inr (14, oX11 (.ref h1) (.ref h2) (.ref h3) (.ref h4) v_outHasNumbers (.ref h5) (.ref h6) (.ref h7) (.ref h8) (.ref h9) (.ref h10) (.ref h11) (.ref h12) v_faultPlace v_latestFinding v_latestSteps v_openSlot v_openSubject))] sz) [(h0, .inr (14, oX11 (.ref h1) (.ref h2) (.ref h3) (.ref h4) v_outHasNumbers (.ref h5) (.ref h6) (.ref h7) (.ref h8) (.ref h9) (.ref h10) (.ref h11) (.ref h12) v_faultPlace v_latestFinding v_latestSteps ov_openSlot ov_openSubject))]) (va_A [(h0, .inr (14, oX11 (.ref h1) (.ref h2) (.ref h3) (.ref h4) v_outHasNumbers (.ref h5) (.ref h6) (.ref h7) (.ref h8) (.ref h9) (.ref h10) (.ref h11) (.ref h12) v_faultPlace v_latestFinding v_latestSteps v_openSlot v_openSubject))] sz)) 0 0 (va_A [(h0, .inr (14, oX11 (.ref h1) (.ref h2) (.ref h3) (.ref h4) v_outHasNumbers (.ref h5) (.ref h6) (.ref h7) (.ref h8) (.ref h9) (.ref h10) (.ref h11) (.ref h12) v_faultPlace v_latestFinding v_latestSteps v_openSlot v_openSubject))] sz) := by
  refine Met.ofW (cc := cX11_endSearch) (maxL := 1) (ret := none) (by decide) rfl ?_
  intro p e s m args below meth c s₁ B hml hv
  obtain ⟨rfl, hsz, hP, hK, hD0⟩ := hv
  have hx := B.exec
  have hb := B.bytes
  have hr := B.returns
  have hts := atoms_spec (ws := WS yX11_endSearch cX11_endSearch 1 none) B.pre
  have ht : ∀ w ∈ TW, w.before _ s = true := fun w h => hts w (List.mem_cons_of_mem _ h)
  have hown : s.vm.findClass "PatternWorkshop" = some m.cls := findClass_of_methodNamed B.named
  have hlocks := B.notSynchronized
  subst hsz
  have hD := hD0.self (sz := s.heap.size)
  generalize hAe : va_A [(h0, .inr (14, oX11 (.ref h1) (.ref h2) (.ref h3) (.ref h4) v_outHasNumbers (.ref h5) (.ref h6) (.ref h7) (.ref h8) (.ref h9) (.ref h10) (.ref h11) (.ref h12) v_faultPlace v_latestFinding v_latestSteps v_openSlot v_openSubject))] s.heap.size = A at hD ⊢
  have hA : ∀ q : Nat, s.heap.size ≤ q → A q := fun q h => by rw [← hAe]; exact Or.inr h
  have hS : va_S A s.heap s.heap [] := va_S.rf
  have hP : va_P (dC, dI) vwCl [(h0, .inr (14, oX11 (.ref h1) (.ref h2) (.ref h3) (.ref h4) v_outHasNumbers (.ref h5) (.ref h6) (.ref h7) (.ref h8) (.ref h9) (.ref h10) (.ref h11) (.ref h12) v_faultPlace v_latestFinding v_latestSteps v_openSlot v_openSubject))] s.heap := hP
  have hl := lv_entry ([.ref h0]) (n := 1) (Nat.le_of_ble_eq_true rfl)
  rw [lg_entry_eq]
  generalize (lg_sl ([.ref h0]) ++ List.replicate (1 - (lg_sl ([.ref h0])).length) Slot.unset).toArray = ls at hl ⊢
  have hl : lv_has ls 1 [(0, .ref h0)] := hl
  clear hD0
  obtain ⟨QQ, hQQ⟩ : ∃ QQ, QQ = MQ below (va_Qv (fun (u : Nat) => u = 0) (fun (_ : Nat) (t : State) => ∃ (ov_openSlot : Int32), ∃ (ov_openSubject : Int32), (Q ov_openSlot ov_openSubject) ∧ va_P (dC, dI) vwCl [(h0, .inr (14, oX11 (.ref h1) (.ref h2) (.ref h3) (.ref h4) v_outHasNumbers (.ref h5) (.ref h6) (.ref h7) (.ref h8) (.ref h9) (.ref h10) (.ref h11) (.ref h12) v_faultPlace v_latestFinding v_latestSteps ov_openSlot ov_openSubject))] t.heap ∧ va_D A [(h0, .inr (14, oX11 (.ref h1) (.ref h2) (.ref h3) (.ref h4) v_outHasNumbers (.ref h5) (.ref h6) (.ref h7) (.ref h8) (.ref h9) (.ref h10) (.ref h11) (.ref h12) v_faultPlace v_latestFinding v_latestSteps ov_openSlot ov_openSubject))]) A) ([.ref h0]).toArray s 0 0 A := ⟨_, rfl⟩
  show W p l e ({ frames := 0, cells := 0, slots := 0, locals := 0 } : Room) s m ([.ref h0]).toArray below meth c s.heap [] 0 0 (MQ below (va_Qv (fun (u : Nat) => u = 0) (fun (_ : Nat) (t : State) => ∃ (ov_openSlot : Int32), ∃ (ov_openSubject : Int32), (Q ov_openSlot ov_openSubject) ∧ va_P (dC, dI) vwCl [(h0, .inr (14, oX11 (.ref h1) (.ref h2) (.ref h3) (.ref h4) v_outHasNumbers (.ref h5) (.ref h6) (.ref h7) (.ref h8) (.ref h9) (.ref h10) (.ref h11) (.ref h12) v_faultPlace v_latestFinding v_latestSteps ov_openSlot ov_openSubject))] t.heap ∧ va_D A [(h0, .inr (14, oX11 (.ref h1) (.ref h2) (.ref h3) (.ref h4) v_outHasNumbers (.ref h5) (.ref h6) (.ref h7) (.ref h8) (.ref h9) (.ref h10) (.ref h11) (.ref h12) v_faultPlace v_latestFinding v_latestSteps ov_openSlot ov_openSubject))]) A) ([.ref h0]).toArray s 0 0 A) (F0 m 0 ls [])
  rw [← hQQ]
  unfold w_X11_endSearch at w
  refine lv_aload_n hx hb dX11_endSearch_0 rfl (lv_at hl 0 rfl) ?_
  refine lv_iconst (v := (-1)) hx hb dX11_endSearch_1 (by decide) ?_
  refine va_put (D := (dC, dI)) (ci := 14) (v := .int (-1)) (ty := .int) (C := RX11) (T := TX11) (N := 18) hx hb ht inX11 tyX11 tyX11_ok nmX11 hown hK hP hD hS 0 rfl rfl 16 (by decide) (ht _ tw_816) (fun _ h9 => h9) rfl (by decide +kernel) rfl rfl (Nat.le_of_ble_eq_true rfl) dX11_endSearch_2 (fun H_1 locs_1 hP_1 hD_1 hS_1 => ?_)
  have hP_1 : va_P (dC, dI) vwCl [(h0, .inr (14, oX11 (.ref h1) (.ref h2) (.ref h3) (.ref h4) v_outHasNumbers (.ref h5) (.ref h6) (.ref h7) (.ref h8) (.ref h9) (.ref h10) (.ref h11) (.ref h12) v_faultPlace v_latestFinding v_latestSteps (-1) v_openSubject))] H_1 := hP_1
  have hD_1 : va_D A [(h0, .inr (14, oX11 (.ref h1) (.ref h2) (.ref h3) (.ref h4) v_outHasNumbers (.ref h5) (.ref h6) (.ref h7) (.ref h8) (.ref h9) (.ref h10) (.ref h11) (.ref h12) v_faultPlace v_latestFinding v_latestSteps (-1) v_openSubject))] := hD_1
  refine lv_aload_n hx hb dX11_endSearch_5 rfl (lv_at hl 0 rfl) ?_
  refine lv_iconst (v := (-1)) hx hb dX11_endSearch_6 (by decide) ?_
  refine va_put (D := (dC, dI)) (ci := 14) (v := .int (-1)) (ty := .int) (C := RX11) (T := TX11) (N := 18) hx hb ht inX11 tyX11 tyX11_ok nmX11 hown hK hP_1 hD_1 hS_1 0 rfl rfl 17 (by decide) (ht _ tw_817) (fun _ h9 => h9) rfl (by decide +kernel) rfl rfl (Nat.le_of_ble_eq_true rfl) dX11_endSearch_7 (fun H_2 locs_2 hP_2 hD_2 hS_2 => ?_)
  have hP_2 : va_P (dC, dI) vwCl [(h0, .inr (14, oX11 (.ref h1) (.ref h2) (.ref h3) (.ref h4) v_outHasNumbers (.ref h5) (.ref h6) (.ref h7) (.ref h8) (.ref h9) (.ref h10) (.ref h11) (.ref h12) v_faultPlace v_latestFinding v_latestSteps (-1) (-1)))] H_2 := hP_2
  have hD_2 : va_D A [(h0, .inr (14, oX11 (.ref h1) (.ref h2) (.ref h3) (.ref h4) v_outHasNumbers (.ref h5) (.ref h6) (.ref h7) (.ref h8) (.ref h9) (.ref h10) (.ref h11) (.ref h12) v_faultPlace v_latestFinding v_latestSteps (-1) (-1)))] := hD_2
  rw [hQQ]
  exact W.vret hx hb hr (fun t9 ht9 hW9 => ⟨⟨0, rfl, rfl, ⟨(-1), (-1), w, by rw [ht9]; exact hP_2, hD_2⟩⟩, hS_2.F ht9⟩) hS_2.2.2 dX11_endSearch_10
def w_X11_endSearchWithSlot_12 (Q : Int32 → Int32 → Prop) (v_openSlot_12 : Int32) (v_openSubject_12 : Int32) : Prop :=
  Q  v_openSlot_12 v_openSubject_12
def w_X11_endSearchWithSlot (p1 : Int32) (v_openSlot : Int32) (v_openSubject : Int32) (Q : Int32 → Int32 → Prop) : Prop :=
  ((¬ v_openSlot = p1) → w_X11_endSearchWithSlot_12 Q v_openSlot v_openSubject) ∧ ((v_openSlot = p1) → w_X11_endSearch  (fun r_2_0 r_2_1 => w_X11_endSearchWithSlot_12 Q r_2_0 r_2_1))
set_option maxHeartbeats 4000000 in
set_option maxRecDepth 100000 in
theorem mt_X11_endSearchWithSlot (l : Launch) (dC : Nat → ClassId) (dI : Nat → Nat → Nat) (h0 h1 h2 h3 h4 h5 h6 h7 h8 h9 h10 h11 h12 : Nat) (p1 : Int32) (v_outHasNumbers : Bool) (v_faultPlace : Int32) (v_latestFinding : Int32) (v_latestSteps : Int32) (v_openSlot : Int32) (v_openSubject : Int32) (Q : Int32 → Int32 → Prop) (w : w_X11_endSearchWithSlot p1 v_openSlot v_openSubject Q) (sz : Nat) : Met l yX11_endSearchWithSlot (WS yX11_endSearchWithSlot cX11_endSearchWithSlot 2 none) ({ frames := 1, cells := 0, slots := 0, locals := 20 } : Room) (va_Pc [.ref h0, .int p1] (fun U => U.heap.size = sz ∧ va_P (dC, dI) vwCl [(h0, .inr (14, oX11 (.ref h1) (.ref h2) (.ref h3) (.ref h4) v_outHasNumbers (.ref h5) (.ref h6) (.ref h7) (.ref h8) (.ref h9) (.ref h10) (.ref h11) (.ref h12) v_faultPlace v_latestFinding v_latestSteps v_openSlot v_openSubject))] U.heap ∧ va_K (dC, dI) vwCl [] U ∧ va_D (fun _ => True) [(h0, .inr (14, oX11 (.ref h1) (.ref h2) (.ref h3) (.ref h4) v_outHasNumbers (.ref h5) (.ref h6) (.ref h7) (.ref h8) (.ref h9) (.ref h10) (.ref h11) (.ref h12) v_faultPlace v_latestFinding v_latestSteps v_openSlot v_openSubject))])) (va_Qv (fun (u : Nat) => u = 0) (fun (_ : Nat) (t : State) => ∃ (ov_openSlot : Int32), ∃ (ov_openSubject : Int32), (Q ov_openSlot ov_openSubject) ∧ va_P (dC, dI) vwCl [(h0, .inr (14, oX11 (.ref h1) (.ref h2) (.ref h3) (.ref h4) v_outHasNumbers (.ref h5) (.ref h6) (.ref h7) (.ref h8) (.ref h9) (.ref h10) (.ref h11) (.ref h12) v_faultPlace v_latestFinding v_latestSteps ov_openSlot ov_openSubject))] t.heap ∧ va_D (va_A [(h0, .inr (14, oX11 (.ref h1) (.ref h2) (.ref h3) (.ref h4) v_outHasNumbers (.ref h5) (.ref h6) (.ref h7) (.ref h8) (.ref h9) (.ref h10) (.ref h11) (.ref h12) v_faultPlace v_latestFinding v_latestSteps v_openSlot v_openSubject))] sz) [(h0, .inr (14, oX11 (.ref h1) (.ref h2) (.ref h3) (.ref h4) v_outHasNumbers (.ref h5) (.ref h6) (.ref h7) (.ref h8) (.ref h9) (.ref h10) (.ref h11) (.ref h12) v_faultPlace v_latestFinding v_latestSteps ov_openSlot ov_openSubject))]) (va_A [(h0, .inr (14, oX11 (.ref h1) (.ref h2) (.ref h3) (.ref h4) v_outHasNumbers (.ref h5) (.ref h6) (.ref h7) (.ref h8) (.ref h9) (.ref h10) (.ref h11) (.ref h12) v_faultPlace v_latestFinding v_latestSteps v_openSlot v_openSubject))] sz)) 0 0 (va_A [(h0, .inr (14, oX11 (.ref h1) (.ref h2) (.ref h3) (.ref h4) v_outHasNumbers (.ref h5) (.ref h6) (.ref h7) (.ref h8) (.ref h9) (.ref h10) (.ref h11) (.ref h12) v_faultPlace v_latestFinding v_latestSteps v_openSlot v_openSubject))] sz) := by
  refine Met.ofW (cc := cX11_endSearchWithSlot) (maxL := 2) (ret := none) (by decide) rfl ?_
  intro p e s m args below meth c s₁ B hml hv
  obtain ⟨rfl, hsz, hP, hK, hD0⟩ := hv
  have hx := B.exec
  have hb := B.bytes
  have hr := B.returns
  have hts := atoms_spec (ws := WS yX11_endSearchWithSlot cX11_endSearchWithSlot 2 none) B.pre
  have ht : ∀ w ∈ TW, w.before _ s = true := fun w h => hts w (List.mem_cons_of_mem _ h)
  have hown : s.vm.findClass "PatternWorkshop" = some m.cls := findClass_of_methodNamed B.named
  have hlocks := B.notSynchronized
  subst hsz
  have hD := hD0.self (sz := s.heap.size)
  generalize hAe : va_A [(h0, .inr (14, oX11 (.ref h1) (.ref h2) (.ref h3) (.ref h4) v_outHasNumbers (.ref h5) (.ref h6) (.ref h7) (.ref h8) (.ref h9) (.ref h10) (.ref h11) (.ref h12) v_faultPlace v_latestFinding v_latestSteps v_openSlot v_openSubject))] s.heap.size = A at hD ⊢
  have hA : ∀ q : Nat, s.heap.size ≤ q → A q := fun q h => by rw [← hAe]; exact Or.inr h
  have hS : va_S A s.heap s.heap [] := va_S.rf
  have hP : va_P (dC, dI) vwCl [(h0, .inr (14, oX11 (.ref h1) (.ref h2) (.ref h3) (.ref h4) v_outHasNumbers (.ref h5) (.ref h6) (.ref h7) (.ref h8) (.ref h9) (.ref h10) (.ref h11) (.ref h12) v_faultPlace v_latestFinding v_latestSteps v_openSlot v_openSubject))] s.heap := hP
  have hl := lv_entry ([.ref h0, .int p1]) (n := 2) (Nat.le_of_ble_eq_true rfl)
  rw [lg_entry_eq]
  generalize (lg_sl ([.ref h0, .int p1]) ++ List.replicate (2 - (lg_sl ([.ref h0, .int p1])).length) Slot.unset).toArray = ls at hl ⊢
  have hl : lv_has ls 2 [(0, .ref h0), (1, .int p1)] := hl
  clear hD0
  obtain ⟨QQ, hQQ⟩ : ∃ QQ, QQ = MQ below (va_Qv (fun (u : Nat) => u = 0) (fun (_ : Nat) (t : State) => ∃ (ov_openSlot : Int32), ∃ (ov_openSubject : Int32), (Q ov_openSlot ov_openSubject) ∧ va_P (dC, dI) vwCl [(h0, .inr (14, oX11 (.ref h1) (.ref h2) (.ref h3) (.ref h4) v_outHasNumbers (.ref h5) (.ref h6) (.ref h7) (.ref h8) (.ref h9) (.ref h10) (.ref h11) (.ref h12) v_faultPlace v_latestFinding v_latestSteps ov_openSlot ov_openSubject))] t.heap ∧ va_D A [(h0, .inr (14, oX11 (.ref h1) (.ref h2) (.ref h3) (.ref h4) v_outHasNumbers (.ref h5) (.ref h6) (.ref h7) (.ref h8) (.ref h9) (.ref h10) (.ref h11) (.ref h12) v_faultPlace v_latestFinding v_latestSteps ov_openSlot ov_openSubject))]) A) ([.ref h0, .int p1]).toArray s 0 0 A := ⟨_, rfl⟩
  show W p l e ({ frames := 1, cells := 0, slots := 0, locals := 20 } : Room) s m ([.ref h0, .int p1]).toArray below meth c s.heap [] 0 0 (MQ below (va_Qv (fun (u : Nat) => u = 0) (fun (_ : Nat) (t : State) => ∃ (ov_openSlot : Int32), ∃ (ov_openSubject : Int32), (Q ov_openSlot ov_openSubject) ∧ va_P (dC, dI) vwCl [(h0, .inr (14, oX11 (.ref h1) (.ref h2) (.ref h3) (.ref h4) v_outHasNumbers (.ref h5) (.ref h6) (.ref h7) (.ref h8) (.ref h9) (.ref h10) (.ref h11) (.ref h12) v_faultPlace v_latestFinding v_latestSteps ov_openSlot ov_openSubject))] t.heap ∧ va_D A [(h0, .inr (14, oX11 (.ref h1) (.ref h2) (.ref h3) (.ref h4) v_outHasNumbers (.ref h5) (.ref h6) (.ref h7) (.ref h8) (.ref h9) (.ref h10) (.ref h11) (.ref h12) v_faultPlace v_latestFinding v_latestSteps ov_openSlot ov_openSubject))]) A) ([.ref h0, .int p1]).toArray s 0 0 A) (F0 m 0 ls [])
  rw [← hQQ]
  unfold w_X11_endSearchWithSlot at w
  refine lv_aload_n hx hb dX11_endSearchWithSlot_0 rfl (lv_at hl 0 rfl) ?_
  refine va_get (D := (dC, dI)) (ci := 14) (v := .int v_openSlot) (C := RX11) (T := TX11) (N := 18) hx hb ht inX11 hown hK hP 0 rfl rfl 16 (by decide) (ht _ tw_816) (fun _ h9 => h9) rfl dX11_endSearchWithSlot_1 ?_
  refine lv_iload_n hx hb dX11_endSearchWithSlot_4 rfl (lv_at hl 1 rfl) ?_
  have k_12 : ∀ (v_openSlot_12 : Int32) (v_openSubject_12 : Int32), ∀ (H_b12 : Heap) (locs_b12 : List Loc) (ls_b12 : Array Slot), w_X11_endSearchWithSlot_12 Q v_openSlot_12 v_openSubject_12 → va_P (dC, dI) vwCl [(h0, .inr (14, oX11 (.ref h1) (.ref h2) (.ref h3) (.ref h4) v_outHasNumbers (.ref h5) (.ref h6) (.ref h7) (.ref h8) (.ref h9) (.ref h10) (.ref h11) (.ref h12) v_faultPlace v_latestFinding v_latestSteps v_openSlot_12 v_openSubject_12))] H_b12 → va_D A [(h0, .inr (14, oX11 (.ref h1) (.ref h2) (.ref h3) (.ref h4) v_outHasNumbers (.ref h5) (.ref h6) (.ref h7) (.ref h8) (.ref h9) (.ref h10) (.ref h11) (.ref h12) v_faultPlace v_latestFinding v_latestSteps v_openSlot_12 v_openSubject_12))] → va_S A s.heap H_b12 locs_b12 → lv_has ls_b12 2 [] → W p l e ({ frames := 1, cells := 0, slots := 0, locals := 20 } : Room) s m ([.ref h0, .int p1]).toArray below meth c H_b12 locs_b12 0 0 QQ (F0 m 12 ls_b12 []) := by
    intro v_openSlot_12 v_openSubject_12 H_b12 locs_b12 ls_b12 w_b12 hP_b12 hD_b12 hS_b12 hl_b12
    unfold w_X11_endSearchWithSlot_12 at w_b12
    rw [hQQ]
    exact W.vret hx hb hr (fun t9 ht9 hW9 => ⟨⟨0, rfl, rfl, ⟨v_openSlot_12, v_openSubject_12, w_b12, by rw [ht9]; exact hP_b12, hD_b12⟩⟩, hS_b12.F ht9⟩) hS_b12.2.2 dX11_endSearchWithSlot_12
  refine lv_icmp_ne (tgt := 12) hx hb dX11_endSearchWithSlot_5 (by decide) (fun c_1 => ?_) (fun c_1 => ?_)
  · exact k_12 v_openSlot v_openSubject _ _ _ (w.1 c_1) hP hD hS (lv_sub hl [] rfl)
  · refine lv_aload_n hx hb dX11_endSearchWithSlot_8 rfl (lv_at hl 0 rfl) ?_
    have hPc_2 := hP.sub (ws' := [(h0, .inr (14, oX11 (.ref h1) (.ref h2) (.ref h3) (.ref h4) v_outHasNumbers (.ref h5) (.ref h6) (.ref h7) (.ref h8) (.ref h9) (.ref h10) (.ref h11) (.ref h12) v_faultPlace v_latestFinding v_latestSteps v_openSlot v_openSubject))]) [0] rfl
    have hDc_2 := hD.sub (ws' := [(h0, .inr (14, oX11 (.ref h1) (.ref h2) (.ref h3) (.ref h4) v_outHasNumbers (.ref h5) (.ref h6) (.ref h7) (.ref h8) (.ref h9) (.ref h10) (.ref h11) (.ref h12) v_faultPlace v_latestFinding v_latestSteps v_openSlot v_openSubject))]) [0] (by decide) rfl
    have hKc_2 := hK.sub (tys' := []) [] rfl
    have hFc_2 := va_free (wc := [(h0, .inr (14, oX11 (.ref h1) (.ref h2) (.ref h3) (.ref h4) v_outHasNumbers (.ref h5) (.ref h6) (.ref h7) (.ref h8) (.ref h9) (.ref h10) (.ref h11) (.ref h12) v_faultPlace v_latestFinding v_latestSteps v_openSlot v_openSubject))]) hD hS hA [0] rfl
    refine va_callv (va_runV (As := []) (rest := []) ⟨hx, hb, hml, hown, ht⟩ (mt_X11_endSearch l dC dI h0 h1 h2 h3 h4 h5 h6 h7 h8 h9 h10 h11 h12 v_outHasNumbers v_faultPlace v_latestFinding v_latestSteps v_openSlot v_openSubject _ (w.2 c_1) s.heap.size) (cwV 0 ht (goodV tw_1136 tw_1138 tw_39 tw_236 gw_X11_endSearch) rfl rfl rfl (by decide +kernel) ⟨Nat.le_of_ble_eq_true rfl, Nat.le_of_ble_eq_true rfl⟩) ⟨fun a U g mk q => by obtain ⟨q0, q1, qP, qK, qD⟩ := q; exact ⟨q0, q1, qP, va_K.moved (u := U) (U := U.calling g mk a) (Vm.Alike.refl U.vm) qK, qD⟩, va_recv hKc_2 hPc_2 (ci := 14) (q0 := 0) rfl rfl, fun U hU hW => ⟨rfl, by rw [hU], by rw [hU]; exact hPc_2, va_K.moved hW.alike hKc_2, hDc_2.weaken (fun _ _ _ _ => trivial)⟩⟩ rfl rfl hl.1 rfl (lv_room (Nat.le_of_ble_eq_true rfl)) dX11_endSearchWithSlot_9 ⟨Nat.le_of_ble_eq_true rfl, Nat.le_of_ble_eq_true rfl⟩) hS (fun q _ h => hFc_2 q h) hFc_2 (fun u_2 t_2 H_2 locs_2 ht_2 hvm_2 hw_2 hB_2 hz_2 hk_2 hS_2 => ?_)
    subst hw_2
    obtain ⟨r_2_0, r_2_1, w_2, hP1_2, hD1_2⟩ := hB_2
    rw [ht_2] at hP1_2
    obtain ⟨hP_2, hD_2⟩ := va_join (wr := []) (w1 := [(h0, .inr (14, oX11 (.ref h1) (.ref h2) (.ref h3) (.ref h4) v_outHasNumbers (.ref h5) (.ref h6) (.ref h7) (.ref h8) (.ref h9) (.ref h10) (.ref h11) (.ref h12) v_faultPlace v_latestFinding v_latestSteps r_2_0 r_2_1))]) hP hD [0] [] rfl rfl (by decide) (by decide) hk_2 hFc_2 hP1_2 hD1_2
    have hP_2 := hP_2.sub (ws' := [(h0, .inr (14, oX11 (.ref h1) (.ref h2) (.ref h3) (.ref h4) v_outHasNumbers (.ref h5) (.ref h6) (.ref h7) (.ref h8) (.ref h9) (.ref h10) (.ref h11) (.ref h12) v_faultPlace v_latestFinding v_latestSteps r_2_0 r_2_1))]) [0] rfl
    have hD_2 := hD_2.sub (ws' := [(h0, .inr (14, oX11 (.ref h1) (.ref h2) (.ref h3) (.ref h4) v_outHasNumbers (.ref h5) (.ref h6) (.ref h7) (.ref h8) (.ref h9) (.ref h10) (.ref h11) (.ref h12) v_faultPlace v_latestFinding v_latestSteps r_2_0 r_2_1))]) [0] (by decide) rfl
    clear hPc_2 hDc_2 hKc_2 hFc_2 hP1_2 hD1_2 hk_2 hz_2
    exact k_12 r_2_0 r_2_1 _ _ _ w_2 hP_2 hD_2 hS_2 (lv_sub hl [] rfl)
def w_X11_endSearchOver_12 (Q : Int32 → Int32 → Prop) (v_openSlot_12 : Int32) (v_openSubject_12 : Int32) : Prop :=
  Q  v_openSlot_12 v_openSubject_12
def w_X11_endSearchOver (p1 : Int32) (v_openSlot : Int32) (v_openSubject : Int32) (Q : Int32 → Int32 → Prop) : Prop :=
  ((¬ v_openSubject = p1) → w_X11_endSearchOver_12 Q v_openSlot v_openSubject) ∧ ((v_openSubject = p1) → w_X11_endSearch  (fun r_2_0 r_2_1 => w_X11_endSearchOver_12 Q r_2_0 r_2_1))
set_option maxHeartbeats 4000000 in
set_option maxRecDepth 100000 in
theorem mt_X11_endSearchOver (l : Launch) (dC : Nat → ClassId) (dI : Nat → Nat → Nat) (h0 h1 h2 h3 h4 h5 h6 h7 h8 h9 h10 h11 h12 : Nat) (p1 : Int32) (v_outHasNumbers : Bool) (v_faultPlace : Int32) (v_latestFinding : Int32) (v_latestSteps : Int32) (v_openSlot : Int32) (v_openSubject : Int32) (Q : Int32 → Int32 → Prop) (w : w_X11_endSearchOver p1 v_openSlot v_openSubject Q) (sz : Nat) : Met l yX11_endSearchOver (WS yX11_endSearchOver cX11_endSearchOver 2 none) ({ frames := 1, cells := 0, slots := 0, locals := 20 } : Room) (va_Pc [.ref h0, .int p1] (fun U => U.heap.size = sz ∧ va_P (dC, dI) vwCl [(h0, .inr (14, oX11 (.ref h1) (.ref h2) (.ref h3) (.ref h4) v_outHasNumbers (.ref h5) (.ref h6) (.ref h7) (.ref h8) (.ref h9) (.ref h10) (.ref h11) (.ref h12) v_faultPlace v_latestFinding v_latestSteps v_openSlot v_openSubject))] U.heap ∧ va_K (dC, dI) vwCl [] U ∧ va_D (fun _ => True) [(h0, .inr (14, oX11 (.ref h1) (.ref h2) (.ref h3) (.ref h4) v_outHasNumbers (.ref h5) (.ref h6) (.ref h7) (.ref h8) (.ref h9) (.ref h10) (.ref h11) (.ref h12) v_faultPlace v_latestFinding v_latestSteps v_openSlot v_openSubject))])) (va_Qv (fun (u : Nat) => u = 0) (fun (_ : Nat) (t : State) => ∃ (ov_openSlot : Int32), ∃ (ov_openSubject : Int32), (Q ov_openSlot ov_openSubject) ∧ va_P (dC, dI) vwCl [(h0, .inr (14, oX11 (.ref h1) (.ref h2) (.ref h3) (.ref h4) v_outHasNumbers (.ref h5) (.ref h6) (.ref h7) (.ref h8) (.ref h9) (.ref h10) (.ref h11) (.ref h12) v_faultPlace v_latestFinding v_latestSteps ov_openSlot ov_openSubject))] t.heap ∧ va_D (va_A [(h0, .inr (14, oX11 (.ref h1) (.ref h2) (.ref h3) (.ref h4) v_outHasNumbers (.ref h5) (.ref h6) (.ref h7) (.ref h8) (.ref h9) (.ref h10) (.ref h11) (.ref h12) v_faultPlace v_latestFinding v_latestSteps v_openSlot v_openSubject))] sz) [(h0, .inr (14, oX11 (.ref h1) (.ref h2) (.ref h3) (.ref h4) v_outHasNumbers (.ref h5) (.ref h6) (.ref h7) (.ref h8) (.ref h9) (.ref h10) (.ref h11) (.ref h12) v_faultPlace v_latestFinding v_latestSteps ov_openSlot ov_openSubject))]) (va_A [(h0, .inr (14, oX11 (.ref h1) (.ref h2) (.ref h3) (.ref h4) v_outHasNumbers (.ref h5) (.ref h6) (.ref h7) (.ref h8) (.ref h9) (.ref h10) (.ref h11) (.ref h12) v_faultPlace v_latestFinding v_latestSteps v_openSlot v_openSubject))] sz)) 0 0 (va_A [(h0, .inr (14, oX11 (.ref h1) (.ref h2) (.ref h3) (.ref h4) v_outHasNumbers (.ref h5) (.ref h6) (.ref h7) (.ref h8) (.ref h9) (.ref h10) (.ref h11) (.ref h12) v_faultPlace v_latestFinding v_latestSteps v_openSlot v_openSubject))] sz) := by
  refine Met.ofW (cc := cX11_endSearchOver) (maxL := 2) (ret := none) (by decide) rfl ?_
  intro p e s m args below meth c s₁ B hml hv
  obtain ⟨rfl, hsz, hP, hK, hD0⟩ := hv
  have hx := B.exec
  have hb := B.bytes
  have hr := B.returns
  have hts := atoms_spec (ws := WS yX11_endSearchOver cX11_endSearchOver 2 none) B.pre
  have ht : ∀ w ∈ TW, w.before _ s = true := fun w h => hts w (List.mem_cons_of_mem _ h)
  have hown : s.vm.findClass "PatternWorkshop" = some m.cls := findClass_of_methodNamed B.named
  have hlocks := B.notSynchronized
  subst hsz
  have hD := hD0.self (sz := s.heap.size)
  generalize hAe : va_A [(h0, .inr (14, oX11 (.ref h1) (.ref h2) (.ref h3) (.ref h4) v_outHasNumbers (.ref h5) (.ref h6) (.ref h7) (.ref h8) (.ref h9) (.ref h10) (.ref h11) (.ref h12) v_faultPlace v_latestFinding v_latestSteps v_openSlot v_openSubject))] s.heap.size = A at hD ⊢
  have hA : ∀ q : Nat, s.heap.size ≤ q → A q := fun q h => by rw [← hAe]; exact Or.inr h
  have hS : va_S A s.heap s.heap [] := va_S.rf
  have hP : va_P (dC, dI) vwCl [(h0, .inr (14, oX11 (.ref h1) (.ref h2) (.ref h3) (.ref h4) v_outHasNumbers (.ref h5) (.ref h6) (.ref h7) (.ref h8) (.ref h9) (.ref h10) (.ref h11) (.ref h12) v_faultPlace v_latestFinding v_latestSteps v_openSlot v_openSubject))] s.heap := hP
  have hl := lv_entry ([.ref h0, .int p1]) (n := 2) (Nat.le_of_ble_eq_true rfl)
  rw [lg_entry_eq]
  generalize (lg_sl ([.ref h0, .int p1]) ++ List.replicate (2 - (lg_sl ([.ref h0, .int p1])).length) Slot.unset).toArray = ls at hl ⊢
  have hl : lv_has ls 2 [(0, .ref h0), (1, .int p1)] := hl
  clear hD0
  obtain ⟨QQ, hQQ⟩ : ∃ QQ, QQ = MQ below (va_Qv (fun (u : Nat) => u = 0) (fun (_ : Nat) (t : State) => ∃ (ov_openSlot : Int32), ∃ (ov_openSubject : Int32), (Q ov_openSlot ov_openSubject) ∧ va_P (dC, dI) vwCl [(h0, .inr (14, oX11 (.ref h1) (.ref h2) (.ref h3) (.ref h4) v_outHasNumbers (.ref h5) (.ref h6) (.ref h7) (.ref h8) (.ref h9) (.ref h10) (.ref h11) (.ref h12) v_faultPlace v_latestFinding v_latestSteps ov_openSlot ov_openSubject))] t.heap ∧ va_D A [(h0, .inr (14, oX11 (.ref h1) (.ref h2) (.ref h3) (.ref h4) v_outHasNumbers (.ref h5) (.ref h6) (.ref h7) (.ref h8) (.ref h9) (.ref h10) (.ref h11) (.ref h12) v_faultPlace v_latestFinding v_latestSteps ov_openSlot ov_openSubject))]) A) ([.ref h0, .int p1]).toArray s 0 0 A := ⟨_, rfl⟩
  show W p l e ({ frames := 1, cells := 0, slots := 0, locals := 20 } : Room) s m ([.ref h0, .int p1]).toArray below meth c s.heap [] 0 0 (MQ below (va_Qv (fun (u : Nat) => u = 0) (fun (_ : Nat) (t : State) => ∃ (ov_openSlot : Int32), ∃ (ov_openSubject : Int32), (Q ov_openSlot ov_openSubject) ∧ va_P (dC, dI) vwCl [(h0, .inr (14, oX11 (.ref h1) (.ref h2) (.ref h3) (.ref h4) v_outHasNumbers (.ref h5) (.ref h6) (.ref h7) (.ref h8) (.ref h9) (.ref h10) (.ref h11) (.ref h12) v_faultPlace v_latestFinding v_latestSteps ov_openSlot ov_openSubject))] t.heap ∧ va_D A [(h0, .inr (14, oX11 (.ref h1) (.ref h2) (.ref h3) (.ref h4) v_outHasNumbers (.ref h5) (.ref h6) (.ref h7) (.ref h8) (.ref h9) (.ref h10) (.ref h11) (.ref h12) v_faultPlace v_latestFinding v_latestSteps ov_openSlot ov_openSubject))]) A) ([.ref h0, .int p1]).toArray s 0 0 A) (F0 m 0 ls [])
  rw [← hQQ]
  unfold w_X11_endSearchOver at w
  refine lv_aload_n hx hb dX11_endSearchOver_0 rfl (lv_at hl 0 rfl) ?_
  refine va_get (D := (dC, dI)) (ci := 14) (v := .int v_openSubject) (C := RX11) (T := TX11) (N := 18) hx hb ht inX11 hown hK hP 0 rfl rfl 17 (by decide) (ht _ tw_817) (fun _ h9 => h9) rfl dX11_endSearchOver_1 ?_
  refine lv_iload_n hx hb dX11_endSearchOver_4 rfl (lv_at hl 1 rfl) ?_
  have k_12 : ∀ (v_openSlot_12 : Int32) (v_openSubject_12 : Int32), ∀ (H_b12 : Heap) (locs_b12 : List Loc) (ls_b12 : Array Slot), w_X11_endSearchOver_12 Q v_openSlot_12 v_openSubject_12 → va_P (dC, dI) vwCl [(h0, .inr (14, oX11 (.ref h1) (.ref h2) (.ref h3) (.ref h4) v_outHasNumbers (.ref h5) (.ref h6) (.ref h7) (.ref h8) (.ref h9) (.ref h10) (.ref h11) (.ref h12) v_faultPlace v_latestFinding v_latestSteps v_openSlot_12 v_openSubject_12))] H_b12 → va_D A [(h0, .inr (14, oX11 (.ref h1) (.ref h2) (.ref h3) (.ref h4) v_outHasNumbers (.ref h5) (.ref h6) (.ref h7) (.ref h8) (.ref h9) (.ref h10) (.ref h11) (.ref h12) v_faultPlace v_latestFinding v_latestSteps v_openSlot_12 v_openSubject_12))] → va_S A s.heap H_b12 locs_b12 → lv_has ls_b12 2 [] → W p l e ({ frames := 1, cells := 0, slots := 0, locals := 20 } : Room) s m ([.ref h0, .int p1]).toArray below meth c H_b12 locs_b12 0 0 QQ (F0 m 12 ls_b12 []) := by
    intro v_openSlot_12 v_openSubject_12 H_b12 locs_b12 ls_b12 w_b12 hP_b12 hD_b12 hS_b12 hl_b12
    unfold w_X11_endSearchOver_12 at w_b12
    rw [hQQ]
    exact W.vret hx hb hr (fun t9 ht9 hW9 => ⟨⟨0, rfl, rfl, ⟨v_openSlot_12, v_openSubject_12, w_b12, by rw [ht9]; exact hP_b12, hD_b12⟩⟩, hS_b12.F ht9⟩) hS_b12.2.2 dX11_endSearchOver_12
  refine lv_icmp_ne (tgt := 12) hx hb dX11_endSearchOver_5 (by decide) (fun c_1 => ?_) (fun c_1 => ?_)
  · exact k_12 v_openSlot v_openSubject _ _ _ (w.1 c_1) hP hD hS (lv_sub hl [] rfl)
  · refine lv_aload_n hx hb dX11_endSearchOver_8 rfl (lv_at hl 0 rfl) ?_
    have hPc_2 := hP.sub (ws' := [(h0, .inr (14, oX11 (.ref h1) (.ref h2) (.ref h3) (.ref h4) v_outHasNumbers (.ref h5) (.ref h6) (.ref h7) (.ref h8) (.ref h9) (.ref h10) (.ref h11) (.ref h12) v_faultPlace v_latestFinding v_latestSteps v_openSlot v_openSubject))]) [0] rfl
    have hDc_2 := hD.sub (ws' := [(h0, .inr (14, oX11 (.ref h1) (.ref h2) (.ref h3) (.ref h4) v_outHasNumbers (.ref h5) (.ref h6) (.ref h7) (.ref h8) (.ref h9) (.ref h10) (.ref h11) (.ref h12) v_faultPlace v_latestFinding v_latestSteps v_openSlot v_openSubject))]) [0] (by decide) rfl
    have hKc_2 := hK.sub (tys' := []) [] rfl
    have hFc_2 := va_free (wc := [(h0, .inr (14, oX11 (.ref h1) (.ref h2) (.ref h3) (.ref h4) v_outHasNumbers (.ref h5) (.ref h6) (.ref h7) (.ref h8) (.ref h9) (.ref h10) (.ref h11) (.ref h12) v_faultPlace v_latestFinding v_latestSteps v_openSlot v_openSubject))]) hD hS hA [0] rfl
    refine va_callv (va_runV (As := []) (rest := []) ⟨hx, hb, hml, hown, ht⟩ (mt_X11_endSearch l dC dI h0 h1 h2 h3 h4 h5 h6 h7 h8 h9 h10 h11 h12 v_outHasNumbers v_faultPlace v_latestFinding v_latestSteps v_openSlot v_openSubject _ (w.2 c_1) s.heap.size) (cwV 0 ht (goodV tw_1136 tw_1138 tw_39 tw_236 gw_X11_endSearch) rfl rfl rfl (by decide +kernel) ⟨Nat.le_of_ble_eq_true rfl, Nat.le_of_ble_eq_true rfl⟩) ⟨fun a U g mk q => by obtain ⟨q0, q1, qP, qK, qD⟩ := q; exact ⟨q0, q1, qP, va_K.moved (u := U) (U := U.calling g mk a) (Vm.Alike.refl U.vm) qK, qD⟩, va_recv hKc_2 hPc_2 (ci := 14) (q0 := 0) rfl rfl, fun U hU hW => ⟨rfl, by rw [hU], by rw [hU]; exact hPc_2, va_K.moved hW.alike hKc_2, hDc_2.weaken (fun _ _ _ _ => trivial)⟩⟩ rfl rfl hl.1 rfl (lv_room (Nat.le_of_ble_eq_true rfl)) dX11_endSearchOver_9 ⟨Nat.le_of_ble_eq_true rfl, Nat.le_of_ble_eq_true rfl⟩) hS (fun q _ h => hFc_2 q h) hFc_2 (fun u_2 t_2 H_2 locs_2 ht_2 hvm_2 hw_2 hB_2 hz_2 hk_2 hS_2 => ?_)
    subst hw_2
    obtain ⟨r_2_0, r_2_1, w_2, hP1_2, hD1_2⟩ := hB_2
    rw [ht_2] at hP1_2
    obtain ⟨hP_2, hD_2⟩ := va_join (wr := []) (w1 := [(h0, .inr (14, oX11 (.ref h1) (.ref h2) (.ref h3) (.ref h4) v_outHasNumbers (.ref h5) (.ref h6) (.ref h7) (.ref h8) (.ref h9) (.ref h10) (.ref h11) (.ref h12) v_faultPlace v_latestFinding v_latestSteps r_2_0 r_2_1))]) hP hD [0] [] rfl rfl (by decide) (by decide) hk_2 hFc_2 hP1_2 hD1_2
    have hP_2 := hP_2.sub (ws' := [(h0, .inr (14, oX11 (.ref h1) (.ref h2) (.ref h3) (.ref h4) v_outHasNumbers (.ref h5) (.ref h6) (.ref h7) (.ref h8) (.ref h9) (.ref h10) (.ref h11) (.ref h12) v_faultPlace v_latestFinding v_latestSteps r_2_0 r_2_1))]) [0] rfl
    have hD_2 := hD_2.sub (ws' := [(h0, .inr (14, oX11 (.ref h1) (.ref h2) (.ref h3) (.ref h4) v_outHasNumbers (.ref h5) (.ref h6) (.ref h7) (.ref h8) (.ref h9) (.ref h10) (.ref h11) (.ref h12) v_faultPlace v_latestFinding v_latestSteps r_2_0 r_2_1))]) [0] (by decide) rfl
    clear hPc_2 hDc_2 hKc_2 hFc_2 hP1_2 hD1_2 hk_2 hz_2
    exact k_12 r_2_0 r_2_1 _ _ _ w_2 hP_2 hD_2 hS_2 (lv_sub hl [] rfl)
def w_X11_isSlot_15 (Q : Int32 → Prop) (s0_15 : Int32) : Prop :=
  (s0_15 = 0 ∨ s0_15 = 1) ∧ Q s0_15
def w_X11_isSlot_14 (Q : Int32 → Prop) : Prop :=
  w_X11_isSlot_15 Q 0
def w_X11_isSlot (p0 : Int32) (Q : Int32 → Prop) : Prop :=
  ((p0 < 0) → w_X11_isSlot_14 Q) ∧ ((¬ p0 < 0) → ((6 ≤ p0) → w_X11_isSlot_14 Q) ∧ ((¬ 6 ≤ p0) → w_X11_isSlot_15 Q 1))
set_option maxHeartbeats 4000000 in
set_option maxRecDepth 100000 in
theorem mt_X11_isSlot (l : Launch) (dC : Nat → ClassId) (dI : Nat → Nat → Nat) (p0 : Int32) (Q : Int32 → Prop) (w : w_X11_isSlot p0 Q) (sz : Nat) : Met l yX11_isSlot (WS yX11_isSlot cX11_isSlot 1 (some (.boolean))) ({ frames := 0, cells := 0, slots := 0, locals := 0 } : Room) (va_Pc [.int p0] (fun U => U.heap.size = sz ∧ va_P (dC, dI) vwCl [] U.heap ∧ va_K (dC, dI) vwCl [] U ∧ va_D (fun _ => True) [])) (va_Qi (fun (r u : Int32) => r = u) (fun (u : Int32) (t : State) => (Q u) ∧ va_P (dC, dI) vwCl [] t.heap ∧ va_D (va_A [] sz) []) (va_A [] sz)) 0 0 (va_A [] sz) := by
  refine Met.ofW (cc := cX11_isSlot) (maxL := 1) (ret := (some (.boolean))) (by decide) rfl ?_
  intro p e s m args below meth c s₁ B hml hv
  obtain ⟨rfl, hsz, hP, hK, hD0⟩ := hv
  have hx := B.exec
  have hb := B.bytes
  have hr := B.returns
  have hts := atoms_spec (ws := WS yX11_isSlot cX11_isSlot 1 (some (.boolean))) B.pre
  have ht : ∀ w ∈ TW, w.before _ s = true := fun w h => hts w (List.mem_cons_of_mem _ h)
  have hown : s.vm.findClass "PatternWorkshop" = some m.cls := findClass_of_methodNamed B.named
  have hlocks := B.notSynchronized
  subst hsz
  have hD := hD0.self (sz := s.heap.size)
  generalize hAe : va_A [] s.heap.size = A at hD ⊢
  have hA : ∀ q : Nat, s.heap.size ≤ q → A q := fun q h => by rw [← hAe]; exact Or.inr h
  have hS : va_S A s.heap s.heap [] := va_S.rf
  have hP : va_P (dC, dI) vwCl [] s.heap := hP
  have hl := lv_entry ([.int p0]) (n := 1) (Nat.le_of_ble_eq_true rfl)
  rw [lg_entry_eq]
  generalize (lg_sl ([.int p0]) ++ List.replicate (1 - (lg_sl ([.int p0])).length) Slot.unset).toArray = ls at hl ⊢
  have hl : lv_has ls 1 [(0, .int p0)] := hl
  clear hD0
  obtain ⟨QQ, hQQ⟩ : ∃ QQ, QQ = MQ below (va_Qi (fun (r u : Int32) => r = u) (fun (u : Int32) (t : State) => (Q u) ∧ va_P (dC, dI) vwCl [] t.heap ∧ va_D A []) A) ([.int p0]).toArray s 0 0 A := ⟨_, rfl⟩
  show W p l e ({ frames := 0, cells := 0, slots := 0, locals := 0 } : Room) s m ([.int p0]).toArray below meth c s.heap [] 0 0 (MQ below (va_Qi (fun (r u : Int32) => r = u) (fun (u : Int32) (t : State) => (Q u) ∧ va_P (dC, dI) vwCl [] t.heap ∧ va_D A []) A) ([.int p0]).toArray s 0 0 A) (F0 m 0 ls [])
  rw [← hQQ]
  unfold w_X11_isSlot at w
  refine lv_iload_n hx hb dX11_isSlot_0 rfl (lv_at hl 0 rfl) ?_
  have k_15 : ∀ (s0_15 : Int32), ∀ (H_b15 : Heap) (locs_b15 : List Loc) (ls_b15 : Array Slot), w_X11_isSlot_15 Q s0_15 → va_P (dC, dI) vwCl [] H_b15 → va_D A [] → va_S A s.heap H_b15 locs_b15 → lv_has ls_b15 1 [] → W p l e ({ frames := 0, cells := 0, slots := 0, locals := 0 } : Room) s m ([.int p0]).toArray below meth c H_b15 locs_b15 0 0 QQ (F0 m 15 ls_b15 [.int s0_15]) := by
    intro s0_15 H_b15 locs_b15 ls_b15 w_b15 hP_b15 hD_b15 hS_b15 hl_b15
    unfold w_X11_isSlot_15 at w_b15
    rw [hQQ]
    exact W.zret (v := s0_15) hx hb hr (or_nar w_b15.1) (fun t9 ht9 hW9 => ⟨⟨s0_15, s0_15, rfl, rfl, ⟨w_b15.2, by rw [ht9]; exact hP_b15, hD_b15⟩⟩, hS_b15.F ht9⟩) hS_b15.2.2 dX11_isSlot_15
  have k_14 : ∀ (H_b14 : Heap) (locs_b14 : List Loc) (ls_b14 : Array Slot), w_X11_isSlot_14 Q → va_P (dC, dI) vwCl [] H_b14 → va_D A [] → va_S A s.heap H_b14 locs_b14 → lv_has ls_b14 1 [] → W p l e ({ frames := 0, cells := 0, slots := 0, locals := 0 } : Room) s m ([.int p0]).toArray below meth c H_b14 locs_b14 0 0 QQ (F0 m 14 ls_b14 []) := by
    intro  H_b14 locs_b14 ls_b14 w_b14 hP_b14 hD_b14 hS_b14 hl_b14
    unfold w_X11_isSlot_14 at w_b14
    refine lv_iconst (v := 0) hx hb dX11_isSlot_14 (by decide) ?_
    exact k_15 0 _ _ _ w_b14 hP_b14 hD_b14 hS_b14 (lv_sub hl_b14 [] rfl)
  refine lv_if_lt (tgt := 14) hx hb dX11_isSlot_1 (by decide) (fun c_1 => ?_) (fun c_1 => ?_)
  · exact k_14  _ _ _ (w.1 c_1) hP hD hS (lv_sub hl [] rfl)
  · refine lv_iload_n hx hb dX11_isSlot_4 rfl (lv_at hl 0 rfl) ?_
    refine lv_bipush (v := 6) hx hb dX11_isSlot_5 (by decide) ?_
    refine lv_icmp_ge (tgt := 14) hx hb dX11_isSlot_7 (by decide) (fun c_2 => ?_) (fun c_2 => ?_)
    · exact k_14  _ _ _ ((w.2 c_1).1 c_2) hP hD hS (lv_sub hl [] rfl)
    · refine lv_iconst (v := 1) hx hb dX11_isSlot_10 (by decide) ?_
      refine lv_goto (tgt := 15) hx hb dX11_isSlot_11 (by decide) ?_
      exact k_15 1 _ _ _ ((w.2 c_1).2 c_2) hP hD hS (lv_sub hl [] rfl)
def w_X11_isSubject_14 (Q : Int32 → Prop) (s0_14 : Int32) : Prop :=
  (s0_14 = 0 ∨ s0_14 = 1) ∧ Q s0_14
def w_X11_isSubject_13 (Q : Int32 → Prop) : Prop :=
  w_X11_isSubject_14 Q 0
def w_X11_isSubject (p0 : Int32) (Q : Int32 → Prop) : Prop :=
  ((p0 < 0) → w_X11_isSubject_13 Q) ∧ ((¬ p0 < 0) → ((4 ≤ p0) → w_X11_isSubject_13 Q) ∧ ((¬ 4 ≤ p0) → w_X11_isSubject_14 Q 1))
set_option maxHeartbeats 4000000 in
set_option maxRecDepth 100000 in
theorem mt_X11_isSubject (l : Launch) (dC : Nat → ClassId) (dI : Nat → Nat → Nat) (p0 : Int32) (Q : Int32 → Prop) (w : w_X11_isSubject p0 Q) (sz : Nat) : Met l yX11_isSubject (WS yX11_isSubject cX11_isSubject 1 (some (.boolean))) ({ frames := 0, cells := 0, slots := 0, locals := 0 } : Room) (va_Pc [.int p0] (fun U => U.heap.size = sz ∧ va_P (dC, dI) vwCl [] U.heap ∧ va_K (dC, dI) vwCl [] U ∧ va_D (fun _ => True) [])) (va_Qi (fun (r u : Int32) => r = u) (fun (u : Int32) (t : State) => (Q u) ∧ va_P (dC, dI) vwCl [] t.heap ∧ va_D (va_A [] sz) []) (va_A [] sz)) 0 0 (va_A [] sz) := by
  refine Met.ofW (cc := cX11_isSubject) (maxL := 1) (ret := (some (.boolean))) (by decide) rfl ?_
  intro p e s m args below meth c s₁ B hml hv
  obtain ⟨rfl, hsz, hP, hK, hD0⟩ := hv
  have hx := B.exec
  have hb := B.bytes
  have hr := B.returns
  have hts := atoms_spec (ws := WS yX11_isSubject cX11_isSubject 1 (some (.boolean))) B.pre
  have ht : ∀ w ∈ TW, w.before _ s = true := fun w h => hts w (List.mem_cons_of_mem _ h)
  have hown : s.vm.findClass "PatternWorkshop" = some m.cls := findClass_of_methodNamed B.named
  have hlocks := B.notSynchronized
  subst hsz
  have hD := hD0.self (sz := s.heap.size)
  generalize hAe : va_A [] s.heap.size = A at hD ⊢
  have hA : ∀ q : Nat, s.heap.size ≤ q → A q := fun q h => by rw [← hAe]; exact Or.inr h
  have hS : va_S A s.heap s.heap [] := va_S.rf
  have hP : va_P (dC, dI) vwCl [] s.heap := hP
  have hl := lv_entry ([.int p0]) (n := 1) (Nat.le_of_ble_eq_true rfl)
  rw [lg_entry_eq]
  generalize (lg_sl ([.int p0]) ++ List.replicate (1 - (lg_sl ([.int p0])).length) Slot.unset).toArray = ls at hl ⊢
  have hl : lv_has ls 1 [(0, .int p0)] := hl
  clear hD0
  obtain ⟨QQ, hQQ⟩ : ∃ QQ, QQ = MQ below (va_Qi (fun (r u : Int32) => r = u) (fun (u : Int32) (t : State) => (Q u) ∧ va_P (dC, dI) vwCl [] t.heap ∧ va_D A []) A) ([.int p0]).toArray s 0 0 A := ⟨_, rfl⟩
  show W p l e ({ frames := 0, cells := 0, slots := 0, locals := 0 } : Room) s m ([.int p0]).toArray below meth c s.heap [] 0 0 (MQ below (va_Qi (fun (r u : Int32) => r = u) (fun (u : Int32) (t : State) => (Q u) ∧ va_P (dC, dI) vwCl [] t.heap ∧ va_D A []) A) ([.int p0]).toArray s 0 0 A) (F0 m 0 ls [])
  rw [← hQQ]
  unfold w_X11_isSubject at w
  refine lv_iload_n hx hb dX11_isSubject_0 rfl (lv_at hl 0 rfl) ?_
  have k_14 : ∀ (s0_14 : Int32), ∀ (H_b14 : Heap) (locs_b14 : List Loc) (ls_b14 : Array Slot), w_X11_isSubject_14 Q s0_14 → va_P (dC, dI) vwCl [] H_b14 → va_D A [] → va_S A s.heap H_b14 locs_b14 → lv_has ls_b14 1 [] → W p l e ({ frames := 0, cells := 0, slots := 0, locals := 0 } : Room) s m ([.int p0]).toArray below meth c H_b14 locs_b14 0 0 QQ (F0 m 14 ls_b14 [.int s0_14]) := by
    intro s0_14 H_b14 locs_b14 ls_b14 w_b14 hP_b14 hD_b14 hS_b14 hl_b14
    unfold w_X11_isSubject_14 at w_b14
    rw [hQQ]
    exact W.zret (v := s0_14) hx hb hr (or_nar w_b14.1) (fun t9 ht9 hW9 => ⟨⟨s0_14, s0_14, rfl, rfl, ⟨w_b14.2, by rw [ht9]; exact hP_b14, hD_b14⟩⟩, hS_b14.F ht9⟩) hS_b14.2.2 dX11_isSubject_14
  have k_13 : ∀ (H_b13 : Heap) (locs_b13 : List Loc) (ls_b13 : Array Slot), w_X11_isSubject_13 Q → va_P (dC, dI) vwCl [] H_b13 → va_D A [] → va_S A s.heap H_b13 locs_b13 → lv_has ls_b13 1 [] → W p l e ({ frames := 0, cells := 0, slots := 0, locals := 0 } : Room) s m ([.int p0]).toArray below meth c H_b13 locs_b13 0 0 QQ (F0 m 13 ls_b13 []) := by
    intro  H_b13 locs_b13 ls_b13 w_b13 hP_b13 hD_b13 hS_b13 hl_b13
    unfold w_X11_isSubject_13 at w_b13
    refine lv_iconst (v := 0) hx hb dX11_isSubject_13 (by decide) ?_
    exact k_14 0 _ _ _ w_b13 hP_b13 hD_b13 hS_b13 (lv_sub hl_b13 [] rfl)
  refine lv_if_lt (tgt := 13) hx hb dX11_isSubject_1 (by decide) (fun c_1 => ?_) (fun c_1 => ?_)
  · exact k_13  _ _ _ (w.1 c_1) hP hD hS (lv_sub hl [] rfl)
  · refine lv_iload_n hx hb dX11_isSubject_4 rfl (lv_at hl 0 rfl) ?_
    refine lv_iconst (v := 4) hx hb dX11_isSubject_5 (by decide) ?_
    refine lv_icmp_ge (tgt := 13) hx hb dX11_isSubject_6 (by decide) (fun c_2 => ?_) (fun c_2 => ?_)
    · exact k_13  _ _ _ ((w.2 c_1).1 c_2) hP hD hS (lv_sub hl [] rfl)
    · refine lv_iconst (v := 1) hx hb dX11_isSubject_9 (by decide) ?_
      refine lv_goto (tgt := 14) hx hb dX11_isSubject_10 (by decide) ?_
      exact k_14 1 _ _ _ ((w.2 c_1).2 c_2) hP hD hS (lv_sub hl [] rfl)
