set_option maxHeartbeats 4000000 in
set_option maxRecDepth 100000 in
theorem mt_X11_isTold_v2 (l : Launch) (dC : Nat → ClassId) (dI : Nat → Nat → Nat) (p0 : Int32) (sz : Nat) : Met l yX11_isTold (WS yX11_isTold cX11_isTold 2 (some (.boolean))) ({ frames := 0, cells := 0, slots := 0, locals := 0 }) (va_Pc [.int p0, .int 1] (fun U => U.heap.size = sz ∧ va_P (dC, dI) vwCl [] U.heap ∧ va_K (dC, dI) vwCl [] U ∧ va_D (fun _ => True) [])) (va_Qi (fun (r : Int32) (u : Nat) => (u = 0 ∧ r = 0 ∧ (¬ ((p0 >>> ((1 : Int32) &&& 31)) &&& 1) = 1)) ∨ (u = 1 ∧ r = 1 ∧ (((p0 >>> ((1 : Int32) &&& 31)) &&& 1) = 1))) (fun (_ : Nat) (t : State) => (va_P (dC, dI) vwCl [] t.heap ∧ va_K (dC, dI) vwCl [] t ∧ va_D (va_A [] sz) [])) (va_A [] sz)) 0 0 (va_A [] sz) := by
  refine Met.ofW (cc := cX11_isTold) (maxL := 2) (ret := (some (.boolean))) (by decide) rfl ?_
  intro p e s m args below meth c s₁ B hml hv
  obtain ⟨rfl, hsz, hP, hK, hD0⟩ := hv
  have hx := B.exec
  have hb := B.bytes
  have hr := B.returns
  have hts := atoms_spec (ws := WS yX11_isTold cX11_isTold 2 (some (.boolean))) B.pre
  have ht : ∀ w ∈ TW, w.before _ s = true := fun w h => hts w (List.mem_cons_of_mem _ h)
  have hown : s.vm.findClass "PatternWorkshop" = some m.cls := findClass_of_methodNamed B.named
  have hlocks := B.notSynchronized
  subst hsz
  have hD := hD0.self (sz := s.heap.size)
  generalize hAe : va_A [] s.heap.size = A at hD ⊢
  have hA : ∀ q : Nat, s.heap.size ≤ q → A q := fun q h => by rw [← hAe]; exact Or.inr h
  have hS : va_S A s.heap s.heap [] := va_S.rf
  have hP : va_P (dC, dI) vwCl [] s.heap := hP
  have hl := lv_entry ([.int p0, .int 1]) (n := 2) (Nat.le_of_ble_eq_true rfl)
  rw [lg_entry_eq]
  generalize (lg_sl ([.int p0, .int 1]) ++ List.replicate (2 - (lg_sl ([.int p0, .int 1])).length) Slot.unset).toArray = ls at hl ⊢
  have hl : lv_has ls 2 [(0, .int p0), (1, .int 1)] := hl
  clear hD0
  refine lv_iload_n hx hb dX11_isTold_0 rfl (lv_at hl 0 rfl) ?_
  refine lv_iload_n hx hb dX11_isTold_1 rfl (lv_at hl 1 rfl) ?_
  refine lv_ishr hx hb dX11_isTold_2 ?_
  refine lv_iconst (v := 1) hx hb dX11_isTold_3 (by decide) ?_
  refine lv_iand hx hb dX11_isTold_4 ?_
  refine lv_iconst (v := 1) hx hb dX11_isTold_5 (by decide) ?_
  refine lv_icmp_ne (tgt := 13) hx hb dX11_isTold_6 (by decide) (fun c_1 => ?_) (fun c_1 => ?_)
  · refine lv_iconst (v := 0) hx hb dX11_isTold_13 (by decide) ?_
    have hP9 := hP.sub (ws' := []) [] rfl
    have hD9 := hD.sub (ws' := []) [] (by decide) rfl
    have hK9 := hK.sub (tys' := []) [] rfl
    refine W.widen (k := 0) (n := 0) (by decide) (by decide) ?_
    exact W.zret (v := 0) hx hb hr rfl (fun t9 ht9 hW9 => ⟨⟨0, 0, rfl, (Or.inl ⟨rfl, rfl, c_1⟩), ⟨by rw [ht9]; exact hP9, va_K.moved hW9.alike hK9, hD9⟩⟩, hS.F ht9⟩) hS.2.2 dX11_isTold_14
  · refine lv_iconst (v := 1) hx hb dX11_isTold_9 (by decide) ?_
    refine lv_goto (tgt := 14) hx hb dX11_isTold_10 (by decide) ?_
    have hP9 := hP.sub (ws' := []) [] rfl
    have hD9 := hD.sub (ws' := []) [] (by decide) rfl
    have hK9 := hK.sub (tys' := []) [] rfl
    refine W.widen (k := 0) (n := 0) (by decide) (by decide) ?_
    exact W.zret (v := 1) hx hb hr rfl (fun t9 ht9 hW9 => ⟨⟨1, 1, rfl, (Or.inr ⟨rfl, rfl, c_1⟩), ⟨by rw [ht9]; exact hP9, va_K.moved hW9.alike hK9, hD9⟩⟩, hS.F ht9⟩) hS.2.2 dX11_isTold_14
set_option maxHeartbeats 4000000 in
set_option maxRecDepth 100000 in
theorem mt_X11_isTold_v3 (l : Launch) (dC : Nat → ClassId) (dI : Nat → Nat → Nat) (p0 : Int32) (sz : Nat) : Met l yX11_isTold (WS yX11_isTold cX11_isTold 2 (some (.boolean))) ({ frames := 0, cells := 0, slots := 0, locals := 0 }) (va_Pc [.int p0, .int 2] (fun U => U.heap.size = sz ∧ va_P (dC, dI) vwCl [] U.heap ∧ va_K (dC, dI) vwCl [] U ∧ va_D (fun _ => True) [])) (va_Qi (fun (r : Int32) (u : Nat) => (u = 0 ∧ r = 0 ∧ (¬ ((p0 >>> ((2 : Int32) &&& 31)) &&& 1) = 1)) ∨ (u = 1 ∧ r = 1 ∧ (((p0 >>> ((2 : Int32) &&& 31)) &&& 1) = 1))) (fun (_ : Nat) (t : State) => (va_P (dC, dI) vwCl [] t.heap ∧ va_K (dC, dI) vwCl [] t ∧ va_D (va_A [] sz) [])) (va_A [] sz)) 0 0 (va_A [] sz) := by
  refine Met.ofW (cc := cX11_isTold) (maxL := 2) (ret := (some (.boolean))) (by decide) rfl ?_
  intro p e s m args below meth c s₁ B hml hv
  obtain ⟨rfl, hsz, hP, hK, hD0⟩ := hv
  have hx := B.exec
  have hb := B.bytes
  have hr := B.returns
  have hts := atoms_spec (ws := WS yX11_isTold cX11_isTold 2 (some (.boolean))) B.pre
  have ht : ∀ w ∈ TW, w.before _ s = true := fun w h => hts w (List.mem_cons_of_mem _ h)
  have hown : s.vm.findClass "PatternWorkshop" = some m.cls := findClass_of_methodNamed B.named
  have hlocks := B.notSynchronized
  subst hsz
  have hD := hD0.self (sz := s.heap.size)
  generalize hAe : va_A [] s.heap.size = A at hD ⊢
  have hA : ∀ q : Nat, s.heap.size ≤ q → A q := fun q h => by rw [← hAe]; exact Or.inr h
  have hS : va_S A s.heap s.heap [] := va_S.rf
  have hP : va_P (dC, dI) vwCl [] s.heap := hP
  have hl := lv_entry ([.int p0, .int 2]) (n := 2) (Nat.le_of_ble_eq_true rfl)
  rw [lg_entry_eq]
  generalize (lg_sl ([.int p0, .int 2]) ++ List.replicate (2 - (lg_sl ([.int p0, .int 2])).length) Slot.unset).toArray = ls at hl ⊢
  have hl : lv_has ls 2 [(0, .int p0), (1, .int 2)] := hl
  clear hD0
  refine lv_iload_n hx hb dX11_isTold_0 rfl (lv_at hl 0 rfl) ?_
  refine lv_iload_n hx hb dX11_isTold_1 rfl (lv_at hl 1 rfl) ?_
  refine lv_ishr hx hb dX11_isTold_2 ?_
  refine lv_iconst (v := 1) hx hb dX11_isTold_3 (by decide) ?_
  refine lv_iand hx hb dX11_isTold_4 ?_
  refine lv_iconst (v := 1) hx hb dX11_isTold_5 (by decide) ?_
  refine lv_icmp_ne (tgt := 13) hx hb dX11_isTold_6 (by decide) (fun c_1 => ?_) (fun c_1 => ?_)
  · refine lv_iconst (v := 0) hx hb dX11_isTold_13 (by decide) ?_
    have hP9 := hP.sub (ws' := []) [] rfl
    have hD9 := hD.sub (ws' := []) [] (by decide) rfl
    have hK9 := hK.sub (tys' := []) [] rfl
    refine W.widen (k := 0) (n := 0) (by decide) (by decide) ?_
    exact W.zret (v := 0) hx hb hr rfl (fun t9 ht9 hW9 => ⟨⟨0, 0, rfl, (Or.inl ⟨rfl, rfl, c_1⟩), ⟨by rw [ht9]; exact hP9, va_K.moved hW9.alike hK9, hD9⟩⟩, hS.F ht9⟩) hS.2.2 dX11_isTold_14
  · refine lv_iconst (v := 1) hx hb dX11_isTold_9 (by decide) ?_
    refine lv_goto (tgt := 14) hx hb dX11_isTold_10 (by decide) ?_
    have hP9 := hP.sub (ws' := []) [] rfl
    have hD9 := hD.sub (ws' := []) [] (by decide) rfl
    have hK9 := hK.sub (tys' := []) [] rfl
    refine W.widen (k := 0) (n := 0) (by decide) (by decide) ?_
    exact W.zret (v := 1) hx hb hr rfl (fun t9 ht9 hW9 => ⟨⟨1, 1, rfl, (Or.inr ⟨rfl, rfl, c_1⟩), ⟨by rw [ht9]; exact hP9, va_K.moved hW9.alike hK9, hD9⟩⟩, hS.F ht9⟩) hS.2.2 dX11_isTold_14
set_option maxHeartbeats 4000000 in
set_option maxRecDepth 100000 in
theorem mt_X11_isTold_v4 (l : Launch) (dC : Nat → ClassId) (dI : Nat → Nat → Nat) (p0 : Int32) (sz : Nat) : Met l yX11_isTold (WS yX11_isTold cX11_isTold 2 (some (.boolean))) ({ frames := 0, cells := 0, slots := 0, locals := 0 }) (va_Pc [.int p0, .int 3] (fun U => U.heap.size = sz ∧ va_P (dC, dI) vwCl [] U.heap ∧ va_K (dC, dI) vwCl [] U ∧ va_D (fun _ => True) [])) (va_Qi (fun (r : Int32) (u : Nat) => (u = 0 ∧ r = 0 ∧ (¬ ((p0 >>> ((3 : Int32) &&& 31)) &&& 1) = 1)) ∨ (u = 1 ∧ r = 1 ∧ (((p0 >>> ((3 : Int32) &&& 31)) &&& 1) = 1))) (fun (_ : Nat) (t : State) => (va_P (dC, dI) vwCl [] t.heap ∧ va_K (dC, dI) vwCl [] t ∧ va_D (va_A [] sz) [])) (va_A [] sz)) 0 0 (va_A [] sz) := by
  refine Met.ofW (cc := cX11_isTold) (maxL := 2) (ret := (some (.boolean))) (by decide) rfl ?_
  intro p e s m args below meth c s₁ B hml hv
  obtain ⟨rfl, hsz, hP, hK, hD0⟩ := hv
  have hx := B.exec
  have hb := B.bytes
  have hr := B.returns
  have hts := atoms_spec (ws := WS yX11_isTold cX11_isTold 2 (some (.boolean))) B.pre
  have ht : ∀ w ∈ TW, w.before _ s = true := fun w h => hts w (List.mem_cons_of_mem _ h)
  have hown : s.vm.findClass "PatternWorkshop" = some m.cls := findClass_of_methodNamed B.named
  have hlocks := B.notSynchronized
  subst hsz
  have hD := hD0.self (sz := s.heap.size)
  generalize hAe : va_A [] s.heap.size = A at hD ⊢
  have hA : ∀ q : Nat, s.heap.size ≤ q → A q := fun q h => by rw [← hAe]; exact Or.inr h
  have hS : va_S A s.heap s.heap [] := va_S.rf
  have hP : va_P (dC, dI) vwCl [] s.heap := hP
  have hl := lv_entry ([.int p0, .int 3]) (n := 2) (Nat.le_of_ble_eq_true rfl)
  rw [lg_entry_eq]
  generalize (lg_sl ([.int p0, .int 3]) ++ List.replicate (2 - (lg_sl ([.int p0, .int 3])).length) Slot.unset).toArray = ls at hl ⊢
  have hl : lv_has ls 2 [(0, .int p0), (1, .int 3)] := hl
  clear hD0
  refine lv_iload_n hx hb dX11_isTold_0 rfl (lv_at hl 0 rfl) ?_
  refine lv_iload_n hx hb dX11_isTold_1 rfl (lv_at hl 1 rfl) ?_
  refine lv_ishr hx hb dX11_isTold_2 ?_
  refine lv_iconst (v := 1) hx hb dX11_isTold_3 (by decide) ?_
  refine lv_iand hx hb dX11_isTold_4 ?_
  refine lv_iconst (v := 1) hx hb dX11_isTold_5 (by decide) ?_
  refine lv_icmp_ne (tgt := 13) hx hb dX11_isTold_6 (by decide) (fun c_1 => ?_) (fun c_1 => ?_)
  · refine lv_iconst (v := 0) hx hb dX11_isTold_13 (by decide) ?_
    have hP9 := hP.sub (ws' := []) [] rfl
    have hD9 := hD.sub (ws' := []) [] (by decide) rfl
    have hK9 := hK.sub (tys' := []) [] rfl
    refine W.widen (k := 0) (n := 0) (by decide) (by decide) ?_
    exact W.zret (v := 0) hx hb hr rfl (fun t9 ht9 hW9 => ⟨⟨0, 0, rfl, (Or.inl ⟨rfl, rfl, c_1⟩), ⟨by rw [ht9]; exact hP9, va_K.moved hW9.alike hK9, hD9⟩⟩, hS.F ht9⟩) hS.2.2 dX11_isTold_14
  · refine lv_iconst (v := 1) hx hb dX11_isTold_9 (by decide) ?_
    refine lv_goto (tgt := 14) hx hb dX11_isTold_10 (by decide) ?_
    have hP9 := hP.sub (ws' := []) [] rfl
    have hD9 := hD.sub (ws' := []) [] (by decide) rfl
    have hK9 := hK.sub (tys' := []) [] rfl
    refine W.widen (k := 0) (n := 0) (by decide) (by decide) ?_
    exact W.zret (v := 1) hx hb hr rfl (fun t9 ht9 hW9 => ⟨⟨1, 1, rfl, (Or.inr ⟨rfl, rfl, c_1⟩), ⟨by rw [ht9]; exact hP9, va_K.moved hW9.alike hK9, hD9⟩⟩, hS.F ht9⟩) hS.2.2 dX11_isTold_14
set_option maxHeartbeats 4000000 in
set_option maxRecDepth 100000 in
theorem mt_X11_isTold_v5 (l : Launch) (dC : Nat → ClassId) (dI : Nat → Nat → Nat) (p0 : Int32) (sz : Nat) : Met l yX11_isTold (WS yX11_isTold cX11_isTold 2 (some (.boolean))) ({ frames := 0, cells := 0, slots := 0, locals := 0 }) (va_Pc [.int p0, .int 4] (fun U => U.heap.size = sz ∧ va_P (dC, dI) vwCl [] U.heap ∧ va_K (dC, dI) vwCl [] U ∧ va_D (fun _ => True) [])) (va_Qi (fun (r : Int32) (u : Nat) => (u = 0 ∧ r = 0 ∧ (¬ ((p0 >>> ((4 : Int32) &&& 31)) &&& 1) = 1)) ∨ (u = 1 ∧ r = 1 ∧ (((p0 >>> ((4 : Int32) &&& 31)) &&& 1) = 1))) (fun (_ : Nat) (t : State) => (va_P (dC, dI) vwCl [] t.heap ∧ va_K (dC, dI) vwCl [] t ∧ va_D (va_A [] sz) [])) (va_A [] sz)) 0 0 (va_A [] sz) := by
  refine Met.ofW (cc := cX11_isTold) (maxL := 2) (ret := (some (.boolean))) (by decide) rfl ?_
  intro p e s m args below meth c s₁ B hml hv
  obtain ⟨rfl, hsz, hP, hK, hD0⟩ := hv
  have hx := B.exec
  have hb := B.bytes
  have hr := B.returns
  have hts := atoms_spec (ws := WS yX11_isTold cX11_isTold 2 (some (.boolean))) B.pre
  have ht : ∀ w ∈ TW, w.before _ s = true := fun w h => hts w (List.mem_cons_of_mem _ h)
  have hown : s.vm.findClass "PatternWorkshop" = some m.cls := findClass_of_methodNamed B.named
  have hlocks := B.notSynchronized
  subst hsz
  have hD := hD0.self (sz := s.heap.size)
  generalize hAe : va_A [] s.heap.size = A at hD ⊢
  have hA : ∀ q : Nat, s.heap.size ≤ q → A q := fun q h => by rw [← hAe]; exact Or.inr h
  have hS : va_S A s.heap s.heap [] := va_S.rf
  have hP : va_P (dC, dI) vwCl [] s.heap := hP
  have hl := lv_entry ([.int p0, .int 4]) (n := 2) (Nat.le_of_ble_eq_true rfl)
  rw [lg_entry_eq]
  generalize (lg_sl ([.int p0, .int 4]) ++ List.replicate (2 - (lg_sl ([.int p0, .int 4])).length) Slot.unset).toArray = ls at hl ⊢
  have hl : lv_has ls 2 [(0, .int p0), (1, .int 4)] := hl
  clear hD0
  refine lv_iload_n hx hb dX11_isTold_0 rfl (lv_at hl 0 rfl) ?_
  refine lv_iload_n hx hb dX11_isTold_1 rfl (lv_at hl 1 rfl) ?_
  refine lv_ishr hx hb dX11_isTold_2 ?_
  refine lv_iconst (v := 1) hx hb dX11_isTold_3 (by decide) ?_
  refine lv_iand hx hb dX11_isTold_4 ?_
  refine lv_iconst (v := 1) hx hb dX11_isTold_5 (by decide) ?_
  refine lv_icmp_ne (tgt := 13) hx hb dX11_isTold_6 (by decide) (fun c_1 => ?_) (fun c_1 => ?_)
  · refine lv_iconst (v := 0) hx hb dX11_isTold_13 (by decide) ?_
    have hP9 := hP.sub (ws' := []) [] rfl
    have hD9 := hD.sub (ws' := []) [] (by decide) rfl
    have hK9 := hK.sub (tys' := []) [] rfl
    refine W.widen (k := 0) (n := 0) (by decide) (by decide) ?_
    exact W.zret (v := 0) hx hb hr rfl (fun t9 ht9 hW9 => ⟨⟨0, 0, rfl, (Or.inl ⟨rfl, rfl, c_1⟩), ⟨by rw [ht9]; exact hP9, va_K.moved hW9.alike hK9, hD9⟩⟩, hS.F ht9⟩) hS.2.2 dX11_isTold_14
  · refine lv_iconst (v := 1) hx hb dX11_isTold_9 (by decide) ?_
    refine lv_goto (tgt := 14) hx hb dX11_isTold_10 (by decide) ?_
    have hP9 := hP.sub (ws' := []) [] rfl
    have hD9 := hD.sub (ws' := []) [] (by decide) rfl
    have hK9 := hK.sub (tys' := []) [] rfl
    refine W.widen (k := 0) (n := 0) (by decide) (by decide) ?_
    exact W.zret (v := 1) hx hb hr rfl (fun t9 ht9 hW9 => ⟨⟨1, 1, rfl, (Or.inr ⟨rfl, rfl, c_1⟩), ⟨by rw [ht9]; exact hP9, va_K.moved hW9.alike hK9, hD9⟩⟩, hS.F ht9⟩) hS.2.2 dX11_isTold_14
set_option maxHeartbeats 4000000 in
set_option maxRecDepth 100000 in
theorem mt_X11_isTold_v6 (l : Launch) (dC : Nat → ClassId) (dI : Nat → Nat → Nat) (p0 : Int32) (sz : Nat) : Met l yX11_isTold (WS yX11_isTold cX11_isTold 2 (some (.boolean))) ({ frames := 0, cells := 0, slots := 0, locals := 0 }) (va_Pc [.int p0, .int 5] (fun U => U.heap.size = sz ∧ va_P (dC, dI) vwCl [] U.heap ∧ va_K (dC, dI) vwCl [] U ∧ va_D (fun _ => True) [])) (va_Qi (fun (r : Int32) (u : Nat) => (u = 0 ∧ r = 0 ∧ (¬ ((p0 >>> ((5 : Int32) &&& 31)) &&& 1) = 1)) ∨ (u = 1 ∧ r = 1 ∧ (((p0 >>> ((5 : Int32) &&& 31)) &&& 1) = 1))) (fun (_ : Nat) (t : State) => (va_P (dC, dI) vwCl [] t.heap ∧ va_K (dC, dI) vwCl [] t ∧ va_D (va_A [] sz) [])) (va_A [] sz)) 0 0 (va_A [] sz) := by
  refine Met.ofW (cc := cX11_isTold) (maxL := 2) (ret := (some (.boolean))) (by decide) rfl ?_
  intro p e s m args below meth c s₁ B hml hv
  obtain ⟨rfl, hsz, hP, hK, hD0⟩ := hv
  have hx := B.exec
  have hb := B.bytes
  have hr := B.returns
  have hts := atoms_spec (ws := WS yX11_isTold cX11_isTold 2 (some (.boolean))) B.pre
  have ht : ∀ w ∈ TW, w.before _ s = true := fun w h => hts w (List.mem_cons_of_mem _ h)
  have hown : s.vm.findClass "PatternWorkshop" = some m.cls := findClass_of_methodNamed B.named
  have hlocks := B.notSynchronized
  subst hsz
  have hD := hD0.self (sz := s.heap.size)
  generalize hAe : va_A [] s.heap.size = A at hD ⊢
  have hA : ∀ q : Nat, s.heap.size ≤ q → A q := fun q h => by rw [← hAe]; exact Or.inr h
  have hS : va_S A s.heap s.heap [] := va_S.rf
  have hP : va_P (dC, dI) vwCl [] s.heap := hP
  have hl := lv_entry ([.int p0, .int 5]) (n := 2) (Nat.le_of_ble_eq_true rfl)
  rw [lg_entry_eq]
  generalize (lg_sl ([.int p0, .int 5]) ++ List.replicate (2 - (lg_sl ([.int p0, .int 5])).length) Slot.unset).toArray = ls at hl ⊢
  have hl : lv_has ls 2 [(0, .int p0), (1, .int 5)] := hl
  clear hD0
  refine lv_iload_n hx hb dX11_isTold_0 rfl (lv_at hl 0 rfl) ?_
  refine lv_iload_n hx hb dX11_isTold_1 rfl (lv_at hl 1 rfl) ?_
  refine lv_ishr hx hb dX11_isTold_2 ?_
  refine lv_iconst (v := 1) hx hb dX11_isTold_3 (by decide) ?_
  refine lv_iand hx hb dX11_isTold_4 ?_
  refine lv_iconst (v := 1) hx hb dX11_isTold_5 (by decide) ?_
  refine lv_icmp_ne (tgt := 13) hx hb dX11_isTold_6 (by decide) (fun c_1 => ?_) (fun c_1 => ?_)
  · refine lv_iconst (v := 0) hx hb dX11_isTold_13 (by decide) ?_
    have hP9 := hP.sub (ws' := []) [] rfl
    have hD9 := hD.sub (ws' := []) [] (by decide) rfl
    have hK9 := hK.sub (tys' := []) [] rfl
    refine W.widen (k := 0) (n := 0) (by decide) (by decide) ?_
    exact W.zret (v := 0) hx hb hr rfl (fun t9 ht9 hW9 => ⟨⟨0, 0, rfl, (Or.inl ⟨rfl, rfl, c_1⟩), ⟨by rw [ht9]; exact hP9, va_K.moved hW9.alike hK9, hD9⟩⟩, hS.F ht9⟩) hS.2.2 dX11_isTold_14
  · refine lv_iconst (v := 1) hx hb dX11_isTold_9 (by decide) ?_
    refine lv_goto (tgt := 14) hx hb dX11_isTold_10 (by decide) ?_
    have hP9 := hP.sub (ws' := []) [] rfl
    have hD9 := hD.sub (ws' := []) [] (by decide) rfl
    have hK9 := hK.sub (tys' := []) [] rfl
    refine W.widen (k := 0) (n := 0) (by decide) (by decide) ?_
    exact W.zret (v := 1) hx hb hr rfl (fun t9 ht9 hW9 => ⟨⟨1, 1, rfl, (Or.inr ⟨rfl, rfl, c_1⟩), ⟨by rw [ht9]; exact hP9, va_K.moved hW9.alike hK9, hD9⟩⟩, hS.F ht9⟩) hS.2.2 dX11_isTold_14
set_option maxHeartbeats 4000000 in
set_option maxRecDepth 100000 in
theorem mt_X11_isSlot_v2 (l : Launch) (dC : Nat → ClassId) (dI : Nat → Nat → Nat) (sz : Nat) : Met l yX11_isSlot (WS yX11_isSlot cX11_isSlot 1 (some (.boolean))) ({ frames := 0, cells := 0, slots := 0, locals := 0 }) (va_Pc [.int 5] (fun U => U.heap.size = sz ∧ va_P (dC, dI) vwCl [] U.heap ∧ va_K (dC, dI) vwCl [] U ∧ va_D (fun _ => True) [])) (va_Qi (fun (r : Int32) (u : Nat) => (u = 0 ∧ r = 1)) (fun (_ : Nat) (t : State) => (va_P (dC, dI) vwCl [] t.heap ∧ va_K (dC, dI) vwCl [] t ∧ va_D (va_A [] sz) [])) (va_A [] sz)) 0 0 (va_A [] sz) := by
  refine Met.ofW (cc := cX11_isSlot) (maxL := 1) (ret := (some (.boolean))) (by decide) rfl ?_
  intro p e s m args below meth c s₁ B hml hv
  obtain ⟨rfl, hsz, hP, hK, hD0⟩ := hv
  have hx := B.exec
  have hb := B.bytes
  have hr := B.returns
  have hts := atoms_spec (ws := WS yX11_isSlot cX11_isSlot 1 (some (.boolean))) B.pre
  have ht : ∀ w ∈ TW, w.before _ s = true := fun w h => hts w (List.mem_cons_of_mem _ h)
  have hown : s.vm.findClass "PatternWorkshop" = some m.cls := findClass_of_methodNamed B.named
  have hlocks := B.notSynchronized
  subst hsz
  have hD := hD0.self (sz := s.heap.size)
  generalize hAe : va_A [] s.heap.size = A at hD ⊢
  have hA : ∀ q : Nat, s.heap.size ≤ q → A q := fun q h => by rw [← hAe]; exact Or.inr h
  have hS : va_S A s.heap s.heap [] := va_S.rf
  have hP : va_P (dC, dI) vwCl [] s.heap := hP
  have hl := lv_entry ([.int 5]) (n := 1) (Nat.le_of_ble_eq_true rfl)
  rw [lg_entry_eq]
  generalize (lg_sl ([.int 5]) ++ List.replicate (1 - (lg_sl ([.int 5])).length) Slot.unset).toArray = ls at hl ⊢
  have hl : lv_has ls 1 [(0, .int 5)] := hl
  clear hD0
  refine lv_iload_n hx hb dX11_isSlot_0 rfl (lv_at hl 0 rfl) ?_
  refine lv_if_lt (tgt := 14) hx hb dX11_isSlot_1 (by decide) (fun c_ => absurd c_ (by decide)) (fun _ => ?_)
  refine lv_iload_n hx hb dX11_isSlot_4 rfl (lv_at hl 0 rfl) ?_
  refine lv_bipush (v := 6) hx hb dX11_isSlot_5 (by decide) ?_
  refine lv_icmp_ge (tgt := 14) hx hb dX11_isSlot_7 (by decide) (fun c_ => absurd c_ (by decide)) (fun _ => ?_)
  refine lv_iconst (v := 1) hx hb dX11_isSlot_10 (by decide) ?_
  refine lv_goto (tgt := 15) hx hb dX11_isSlot_11 (by decide) ?_
  have hP9 := hP.sub (ws' := []) [] rfl
  have hD9 := hD.sub (ws' := []) [] (by decide) rfl
  have hK9 := hK.sub (tys' := []) [] rfl
  refine W.widen (k := 0) (n := 0) (by decide) (by decide) ?_
  exact W.zret (v := 1) hx hb hr rfl (fun t9 ht9 hW9 => ⟨⟨1, 0, rfl, ⟨rfl, rfl⟩, ⟨by rw [ht9]; exact hP9, va_K.moved hW9.alike hK9, hD9⟩⟩, hS.F ht9⟩) hS.2.2 dX11_isSlot_15
set_option maxHeartbeats 4000000 in
set_option maxRecDepth 100000 in
theorem mt_X11_patternIn_v2 (l : Launch) (dC : Nat → ClassId) (dI : Nat → Nat → Nat) (h0 h1 h2 h3 h4 h5 h6 h7 h8 h9 h10 h11 h12 h13 h14 h15 h16 h17 h18 h19 h20 h21 h22 h23 h24 h25 h26 h27 h28 h29 h30 h31 h32 h33 h34 : Nat) (k0 : ClassId) (sz : Nat) : Met l yX11_patternIn (WS yX11_patternIn cX11_patternIn 2 (some (.object "PatternWorkshop$Tree"))) ({ frames := 1, cells := 0, slots := 0, locals := 20 }) (va_Pc [.ref h0, .int 5] (fun U => U.heap.size = sz ∧ va_P (dC, dI) vwCl [(h0, .inr (14, [.ref h1, .ref h2, .ref h3, .ref h4, .int 0, .ref h5, .ref h6, .ref h7, .ref h8, .ref h9, .ref h10, .ref h11, .ref h12, .int (-1), .int 0, .int 0, .int (-1), .int (-1)])), (h2, .inl (k0, 6, .inr (.inr (.inr (.inr (va_up (va_up (va_up (va_up (va_up (va_up (fun _ => none) 0 (some h13)) 1 (some h14)) 2 (some h15)) 3 (some h16)) 4 (some h17)) 5 (some h18))))))), (h18, .inr (13, [.int 0, .int 0, .int 0, .int 0, .ref h19, .ref h20, .ref h21, .ref h22, .ref h23, .ref h24, .ref h25, .ref h26, .ref h27, .ref h28, .ref h29, .ref h30, .ref h31, .ref h32, .ref h33, .ref h34]))] U.heap ∧ va_K (dC, dI) vwCl [(k0, .object "PatternWorkshop$Tree")] U ∧ va_D (fun _ => True) [(h0, .inr (14, [.ref h1, .ref h2, .ref h3, .ref h4, .int 0, .ref h5, .ref h6, .ref h7, .ref h8, .ref h9, .ref h10, .ref h11, .ref h12, .int (-1), .int 0, .int 0, .int (-1), .int (-1)])), (h2, .inl (k0, 6, .inr (.inr (.inr (.inr (va_up (va_up (va_up (va_up (va_up (va_up (fun _ => none) 0 (some h13)) 1 (some h14)) 2 (some h15)) 3 (some h16)) 4 (some h17)) 5 (some h18))))))), (h18, .inr (13, [.int 0, .int 0, .int 0, .int 0, .ref h19, .ref h20, .ref h21, .ref h22, .ref h23, .ref h24, .ref h25, .ref h26, .ref h27, .ref h28, .ref h29, .ref h30, .ref h31, .ref h32, .ref h33, .ref h34]))])) (va_Qq (fun (r : Option Nat) (u : Nat) => (u = 0 ∧ r = none)) (fun (_ : Nat) (t : State) => (va_P (dC, dI) vwCl [] t.heap ∧ va_K (dC, dI) vwCl [] t ∧ va_D (va_A [(h0, .inr (14, [.ref h1, .ref h2, .ref h3, .ref h4, .int 0, .ref h5, .ref h6, .ref h7, .ref h8, .ref h9, .ref h10, .ref h11, .ref h12, .int (-1), .int 0, .int 0, .int (-1), .int (-1)])), (h2, .inl (k0, 6, .inr (.inr (.inr (.inr (va_up (va_up (va_up (va_up (va_up (va_up (fun _ => none) 0 (some h13)) 1 (some h14)) 2 (some h15)) 3 (some h16)) 4 (some h17)) 5 (some h18))))))), (h18, .inr (13, [.int 0, .int 0, .int 0, .int 0, .ref h19, .ref h20, .ref h21, .ref h22, .ref h23, .ref h24, .ref h25, .ref h26, .ref h27, .ref h28, .ref h29, .ref h30, .ref h31, .ref h32, .ref h33, .ref h34]))] sz) [])) (va_A [(h0, .inr (14, [.ref h1, .ref h2, .ref h3, .ref h4, .int 0, .ref h5, .ref h6, .ref h7, .ref h8, .ref h9, .ref h10, .ref h11, .ref h12, .int (-1), .int 0, .int 0, .int (-1), .int (-1)])), (h2, .inl (k0, 6, .inr (.inr (.inr (.inr (va_up (va_up (va_up (va_up (va_up (va_up (fun _ => none) 0 (some h13)) 1 (some h14)) 2 (some h15)) 3 (some h16)) 4 (some h17)) 5 (some h18))))))), (h18, .inr (13, [.int 0, .int 0, .int 0, .int 0, .ref h19, .ref h20, .ref h21, .ref h22, .ref h23, .ref h24, .ref h25, .ref h26, .ref h27, .ref h28, .ref h29, .ref h30, .ref h31, .ref h32, .ref h33, .ref h34]))] sz)) 0 0 (va_A [(h0, .inr (14, [.ref h1, .ref h2, .ref h3, .ref h4, .int 0, .ref h5, .ref h6, .ref h7, .ref h8, .ref h9, .ref h10, .ref h11, .ref h12, .int (-1), .int 0, .int 0, .int (-1), .int (-1)])), (h2, .inl (k0, 6, .inr (.inr (.inr (.inr (va_up (va_up (va_up (va_up (va_up (va_up (fun _ => none) 0 (some h13)) 1 (some h14)) 2 (some h15)) 3 (some h16)) 4 (some h17)) 5 (some h18))))))), (h18, .inr (13, [.int 0, .int 0, .int 0, .int 0, .ref h19, .ref h20, .ref h21, .ref h22, .ref h23, .ref h24, .ref h25, .ref h26, .ref h27, .ref h28, .ref h29, .ref h30, .ref h31, .ref h32, .ref h33, .ref h34]))] sz) := by
  refine Met.ofW (cc := cX11_patternIn) (maxL := 2) (ret := (some (.object "PatternWorkshop$Tree"))) (by decide) rfl ?_
  intro p e s m args below meth c s₁ B hml hv
  obtain ⟨rfl, hsz, hP, hK, hD0⟩ := hv
  have hx := B.exec
  have hb := B.bytes
  have hr := B.returns
  have hts := atoms_spec (ws := WS yX11_patternIn cX11_patternIn 2 (some (.object "PatternWorkshop$Tree"))) B.pre
  have ht : ∀ w ∈ TW, w.before _ s = true := fun w h => hts w (List.mem_cons_of_mem _ h)
  have hown : s.vm.findClass "PatternWorkshop" = some m.cls := findClass_of_methodNamed B.named
  have hlocks := B.notSynchronized
  subst hsz
  have hD := hD0.self (sz := s.heap.size)
  generalize hAe : va_A [(h0, .inr (14, [.ref h1, .ref h2, .ref h3, .ref h4, .int 0, .ref h5, .ref h6, .ref h7, .ref h8, .ref h9, .ref h10, .ref h11, .ref h12, .int (-1), .int 0, .int 0, .int (-1), .int (-1)])), (h2, .inl (k0, 6, .inr (.inr (.inr (.inr (va_up (va_up (va_up (va_up (va_up (va_up (fun _ => none) 0 (some h13)) 1 (some h14)) 2 (some h15)) 3 (some h16)) 4 (some h17)) 5 (some h18))))))), (h18, .inr (13, [.int 0, .int 0, .int 0, .int 0, .ref h19, .ref h20, .ref h21, .ref h22, .ref h23, .ref h24, .ref h25, .ref h26, .ref h27, .ref h28, .ref h29, .ref h30, .ref h31, .ref h32, .ref h33, .ref h34]))] s.heap.size = A at hD ⊢
  have hA : ∀ q : Nat, s.heap.size ≤ q → A q := fun q h => by rw [← hAe]; exact Or.inr h
  have hS : va_S A s.heap s.heap [] := va_S.rf
  have hP : va_P (dC, dI) vwCl [(h0, .inr (14, [.ref h1, .ref h2, .ref h3, .ref h4, .int 0, .ref h5, .ref h6, .ref h7, .ref h8, .ref h9, .ref h10, .ref h11, .ref h12, .int (-1), .int 0, .int 0, .int (-1), .int (-1)])), (h2, .inl (k0, 6, .inr (.inr (.inr (.inr (va_up (va_up (va_up (va_up (va_up (va_up (fun _ => none) 0 (some h13)) 1 (some h14)) 2 (some h15)) 3 (some h16)) 4 (some h17)) 5 (some h18))))))), (h18, .inr (13, [.int 0, .int 0, .int 0, .int 0, .ref h19, .ref h20, .ref h21, .ref h22, .ref h23, .ref h24, .ref h25, .ref h26, .ref h27, .ref h28, .ref h29, .ref h30, .ref h31, .ref h32, .ref h33, .ref h34]))] s.heap := hP
  have hl := lv_entry ([.ref h0, .int 5]) (n := 2) (Nat.le_of_ble_eq_true rfl)
  rw [lg_entry_eq]
  generalize (lg_sl ([.ref h0, .int 5]) ++ List.replicate (2 - (lg_sl ([.ref h0, .int 5])).length) Slot.unset).toArray = ls at hl ⊢
  have hl : lv_has ls 2 [(0, .ref h0), (1, .int 5)] := hl
  clear hD0
  refine lv_iload_n hx hb dX11_patternIn_0 rfl (lv_at hl 1 rfl) ?_
  have hPc_1 := hP.sub (ws' := []) [] rfl
  have hDc_1 := hD.sub (ws' := []) [] (by decide) rfl
  have hKc_1 := hK.sub (tys' := []) [] rfl
  have hFc_1 := va_free (wc := []) hD hS hA [] rfl
  refine va_calli (va_runS (As := [.int 5]) (rest := []) ⟨hx, hb, hml, hown, ht⟩ (mt_X11_isSlot_v2 l dC dI s.heap.size) (cwS 1 ht (goodS tw_873 tw_874 tw_236 gw_X11_isSlot) rfl rfl rfl (by decide +kernel) ⟨Nat.le_of_ble_eq_true rfl, Nat.le_of_ble_eq_true rfl⟩) ⟨fun a U g mk q => by obtain ⟨q0, q1, qP, qK, qD⟩ := q; exact ⟨q0, q1, qP, va_K.moved (u := U) (U := U.calling g mk a) (Vm.Alike.refl U.vm) qK, qD⟩, fun U hU hW => ⟨rfl, by rw [hU], by rw [hU]; exact hPc_1, va_K.moved hW.alike hKc_1, hDc_1.weaken (fun _ _ _ _ => trivial)⟩⟩ rfl rfl hl.1 rfl (lv_room (Nat.le_of_ble_eq_true rfl)) dX11_patternIn_1 ⟨Nat.le_of_ble_eq_true rfl, Nat.le_of_ble_eq_true rfl⟩) hS (fun q _ h => hFc_1 q h) hFc_1 (fun r_1 u_1 t_1 H_1 locs_1 ht_1 hvm_1 hw_1 hB_1 hz_1 hk_1 hS_1 => ?_)
  obtain ⟨rfl, rfl⟩ := hw_1
  obtain ⟨hP1_1, hK1_1, hD1_1⟩ := hB_1
  rw [ht_1] at hP1_1
  have hK1_1 := va_K.moved hvm_1.symm hK1_1
  obtain ⟨hP_1, hD_1⟩ := va_join (wr := [(h0, .inr (14, [.ref h1, .ref h2, .ref h3, .ref h4, .int 0, .ref h5, .ref h6, .ref h7, .ref h8, .ref h9, .ref h10, .ref h11, .ref h12, .int (-1), .int 0, .int 0, .int (-1), .int (-1)])), (h2, .inl (k0, 6, .inr (.inr (.inr (.inr (va_up (va_up (va_up (va_up (va_up (va_up (fun _ => none) 0 (some h13)) 1 (some h14)) 2 (some h15)) 3 (some h16)) 4 (some h17)) 5 (some h18))))))), (h18, .inr (13, [.int 0, .int 0, .int 0, .int 0, .ref h19, .ref h20, .ref h21, .ref h22, .ref h23, .ref h24, .ref h25, .ref h26, .ref h27, .ref h28, .ref h29, .ref h30, .ref h31, .ref h32, .ref h33, .ref h34]))]) (w1 := []) hP hD [] [0, 1, 2] rfl rfl (by decide) (by decide) hk_1 hFc_1 hP1_1 hD1_1
  have hK_1 := (hK.sub (tys' := [(k0, .object "PatternWorkshop$Tree")]) [0] rfl).app hK1_1
  have hK_1 : va_K (dC, dI) vwCl [(k0, .object "PatternWorkshop$Tree")] s := hK_1
  have hP_1 : va_P (dC, dI) vwCl [(h0, .inr (14, [.ref h1, .ref h2, .ref h3, .ref h4, .int 0, .ref h5, .ref h6, .ref h7, .ref h8, .ref h9, .ref h10, .ref h11, .ref h12, .int (-1), .int 0, .int 0, .int (-1), .int (-1)])), (h2, .inl (k0, 6, .inr (.inr (.inr (.inr (va_up (va_up (va_up (va_up (va_up (va_up (fun _ => none) 0 (some h13)) 1 (some h14)) 2 (some h15)) 3 (some h16)) 4 (some h17)) 5 (some h18))))))), (h18, .inr (13, [.int 0, .int 0, .int 0, .int 0, .ref h19, .ref h20, .ref h21, .ref h22, .ref h23, .ref h24, .ref h25, .ref h26, .ref h27, .ref h28, .ref h29, .ref h30, .ref h31, .ref h32, .ref h33, .ref h34]))] H_1 := hP_1
  have hD_1 : va_D A [(h0, .inr (14, [.ref h1, .ref h2, .ref h3, .ref h4, .int 0, .ref h5, .ref h6, .ref h7, .ref h8, .ref h9, .ref h10, .ref h11, .ref h12, .int (-1), .int 0, .int 0, .int (-1), .int (-1)])), (h2, .inl (k0, 6, .inr (.inr (.inr (.inr (va_up (va_up (va_up (va_up (va_up (va_up (fun _ => none) 0 (some h13)) 1 (some h14)) 2 (some h15)) 3 (some h16)) 4 (some h17)) 5 (some h18))))))), (h18, .inr (13, [.int 0, .int 0, .int 0, .int 0, .ref h19, .ref h20, .ref h21, .ref h22, .ref h23, .ref h24, .ref h25, .ref h26, .ref h27, .ref h28, .ref h29, .ref h30, .ref h31, .ref h32, .ref h33, .ref h34]))] := hD_1
  clear hP hD hS hK hPc_1 hDc_1 hKc_1 hFc_1 hP1_1 hK1_1 hD1_1 hk_1 hz_1
  refine lv_if_ne (tgt := 9) hx hb dX11_patternIn_4 (by decide) (fun _ => ?_) (fun c_ => absurd c_ (by decide))
  refine lv_aload_n hx hb dX11_patternIn_9 rfl (lv_at hl 0 rfl) ?_
  refine va_get (D := (dC, dI)) (ci := 14) (v := .ref h2) (C := RX11) (T := TX11) (N := 18) hx hb ht inX11 hown hK_1 hP_1 0 rfl rfl 1 (by decide) (ht _ tw_801) (fun _ h9 => h9) rfl dX11_patternIn_10 ?_
  refine lv_iload_n hx hb dX11_patternIn_13 rfl (lv_at hl 1 rfl) ?_
  refine va_aldq hx hb hK_1 hP_1 1 0 rfl rfl (i := 5) (vpi (by decide)) dX11_patternIn_14 ?_
  refine W.eq (g2 := F0 m 15 ls [.ref h18]) rfl ?_
  refine va_get (D := (dC, dI)) (ci := 13) (v := .int 0) (C := RX10) (T := TX10) (N := 20) hx hb ht inX10 hown hK_1 hP_1 2 rfl rfl 0 (by decide) (ht _ tw_318) (fun _ h9 => h9) rfl dX11_patternIn_15 ?_
  refine lv_if_ne (tgt := 28) hx hb dX11_patternIn_18 (by decide) (fun c_ => absurd (by decide) c_) (fun _ => ?_)
  refine lv_aload_n hx hb dX11_patternIn_21 rfl (lv_at hl 0 rfl) ?_
  refine lv_iconst (v := 2) hx hb dX11_patternIn_22 (by decide) ?_
  refine va_put (D := (dC, dI)) (ci := 14) (v := .int 2) (ty := .int) (C := RX11) (T := TX11) (N := 18) hx hb ht inX11 tyX11 tyX11_ok nmX11 hown hK_1 hP_1 hD_1 hS_1 0 rfl rfl 14 (by decide) (ht _ tw_814) (fun _ h9 => h9) rfl (by decide +kernel) rfl rfl (Nat.le_of_ble_eq_true rfl) dX11_patternIn_23 (fun H_2 locs_2 hP_2 hD_2 hS_2 => ?_)
  have hP_2 : va_P (dC, dI) vwCl [(h0, .inr (14, [.ref h1, .ref h2, .ref h3, .ref h4, .int 0, .ref h5, .ref h6, .ref h7, .ref h8, .ref h9, .ref h10, .ref h11, .ref h12, .int (-1), .int 2, .int 0, .int (-1), .int (-1)])), (h2, .inl (k0, 6, .inr (.inr (.inr (.inr (va_up (va_up (va_up (va_up (va_up (va_up (fun _ => none) 0 (some h13)) 1 (some h14)) 2 (some h15)) 3 (some h16)) 4 (some h17)) 5 (some h18))))))), (h18, .inr (13, [.int 0, .int 0, .int 0, .int 0, .ref h19, .ref h20, .ref h21, .ref h22, .ref h23, .ref h24, .ref h25, .ref h26, .ref h27, .ref h28, .ref h29, .ref h30, .ref h31, .ref h32, .ref h33, .ref h34]))] H_2 := hP_2
  have hD_2 : va_D A [(h0, .inr (14, [.ref h1, .ref h2, .ref h3, .ref h4, .int 0, .ref h5, .ref h6, .ref h7, .ref h8, .ref h9, .ref h10, .ref h11, .ref h12, .int (-1), .int 2, .int 0, .int (-1), .int (-1)])), (h2, .inl (k0, 6, .inr (.inr (.inr (.inr (va_up (va_up (va_up (va_up (va_up (va_up (fun _ => none) 0 (some h13)) 1 (some h14)) 2 (some h15)) 3 (some h16)) 4 (some h17)) 5 (some h18))))))), (h18, .inr (13, [.int 0, .int 0, .int 0, .int 0, .ref h19, .ref h20, .ref h21, .ref h22, .ref h23, .ref h24, .ref h25, .ref h26, .ref h27, .ref h28, .ref h29, .ref h30, .ref h31, .ref h32, .ref h33, .ref h34]))] := hD_2
  clear hP_1 hD_1 hS_1
  refine lv_null hx hb dX11_patternIn_26 ?_
  have hP9 := hP_2.sub (ws' := []) [] rfl
  have hD9 := hD_2.sub (ws' := []) [] (by decide) rfl
  have hK9 := hK_1.sub (tys' := []) [] rfl
  refine W.widen (k := 0) (n := 0) (by decide) (by decide) ?_
  exact W.aret (v := .null) hx hb hr (Or.inl ⟨_, rfl⟩) (Or.inl rfl) (fun t9 ht9 hW9 => ⟨⟨none, 0, rfl, ⟨rfl, rfl⟩, ⟨by rw [ht9]; exact hP9, va_K.moved hW9.alike hK9, hD9⟩⟩, hS_2.F ht9⟩) hS_2.2.2 dX11_patternIn_27
set_option maxHeartbeats 4000000 in
set_option maxRecDepth 100000 in
theorem mt_X11_isSlot_v3 (l : Launch) (dC : Nat → ClassId) (dI : Nat → Nat → Nat) (sz : Nat) : Met l yX11_isSlot (WS yX11_isSlot cX11_isSlot 1 (some (.boolean))) ({ frames := 0, cells := 0, slots := 0, locals := 0 }) (va_Pc [.int 4] (fun U => U.heap.size = sz ∧ va_P (dC, dI) vwCl [] U.heap ∧ va_K (dC, dI) vwCl [] U ∧ va_D (fun _ => True) [])) (va_Qi (fun (r : Int32) (u : Nat) => (u = 0 ∧ r = 1)) (fun (_ : Nat) (t : State) => (va_P (dC, dI) vwCl [] t.heap ∧ va_K (dC, dI) vwCl [] t ∧ va_D (va_A [] sz) [])) (va_A [] sz)) 0 0 (va_A [] sz) := by
  refine Met.ofW (cc := cX11_isSlot) (maxL := 1) (ret := (some (.boolean))) (by decide) rfl ?_
  intro p e s m args below meth c s₁ B hml hv
  obtain ⟨rfl, hsz, hP, hK, hD0⟩ := hv
  have hx := B.exec
  have hb := B.bytes
  have hr := B.returns
  have hts := atoms_spec (ws := WS yX11_isSlot cX11_isSlot 1 (some (.boolean))) B.pre
  have ht : ∀ w ∈ TW, w.before _ s = true := fun w h => hts w (List.mem_cons_of_mem _ h)
  have hown : s.vm.findClass "PatternWorkshop" = some m.cls := findClass_of_methodNamed B.named
  have hlocks := B.notSynchronized
  subst hsz
  have hD := hD0.self (sz := s.heap.size)
  generalize hAe : va_A [] s.heap.size = A at hD ⊢
  have hA : ∀ q : Nat, s.heap.size ≤ q → A q := fun q h => by rw [← hAe]; exact Or.inr h
  have hS : va_S A s.heap s.heap [] := va_S.rf
  have hP : va_P (dC, dI) vwCl [] s.heap := hP
  have hl := lv_entry ([.int 4]) (n := 1) (Nat.le_of_ble_eq_true rfl)
  rw [lg_entry_eq]
  generalize (lg_sl ([.int 4]) ++ List.replicate (1 - (lg_sl ([.int 4])).length) Slot.unset).toArray = ls at hl ⊢
  have hl : lv_has ls 1 [(0, .int 4)] := hl
  clear hD0
  refine lv_iload_n hx hb dX11_isSlot_0 rfl (lv_at hl 0 rfl) ?_
  refine lv_if_lt (tgt := 14) hx hb dX11_isSlot_1 (by decide) (fun c_ => absurd c_ (by decide)) (fun _ => ?_)
  refine lv_iload_n hx hb dX11_isSlot_4 rfl (lv_at hl 0 rfl) ?_
  refine lv_bipush (v := 6) hx hb dX11_isSlot_5 (by decide) ?_
  refine lv_icmp_ge (tgt := 14) hx hb dX11_isSlot_7 (by decide) (fun c_ => absurd c_ (by decide)) (fun _ => ?_)
  refine lv_iconst (v := 1) hx hb dX11_isSlot_10 (by decide) ?_
  refine lv_goto (tgt := 15) hx hb dX11_isSlot_11 (by decide) ?_
  have hP9 := hP.sub (ws' := []) [] rfl
  have hD9 := hD.sub (ws' := []) [] (by decide) rfl
  have hK9 := hK.sub (tys' := []) [] rfl
  refine W.widen (k := 0) (n := 0) (by decide) (by decide) ?_
  exact W.zret (v := 1) hx hb hr rfl (fun t9 ht9 hW9 => ⟨⟨1, 0, rfl, ⟨rfl, rfl⟩, ⟨by rw [ht9]; exact hP9, va_K.moved hW9.alike hK9, hD9⟩⟩, hS.F ht9⟩) hS.2.2 dX11_isSlot_15
set_option maxHeartbeats 4000000 in
set_option maxRecDepth 100000 in
theorem mt_X11_patternIn_v3 (l : Launch) (dC : Nat → ClassId) (dI : Nat → Nat → Nat) (h0 h1 h2 h3 h4 h5 h6 h7 h8 h9 h10 h11 h12 h13 h14 h15 h16 h17 h18 h19 h20 h21 h22 h23 h24 h25 h26 h27 h28 h29 h30 h31 h32 h33 h34 : Nat) (k0 : ClassId) (sz : Nat) : Met l yX11_patternIn (WS yX11_patternIn cX11_patternIn 2 (some (.object "PatternWorkshop$Tree"))) ({ frames := 1, cells := 0, slots := 0, locals := 20 }) (va_Pc [.ref h0, .int 4] (fun U => U.heap.size = sz ∧ va_P (dC, dI) vwCl [(h0, .inr (14, [.ref h1, .ref h2, .ref h3, .ref h4, .int 0, .ref h5, .ref h6, .ref h7, .ref h8, .ref h9, .ref h10, .ref h11, .ref h12, .int (-1), .int 0, .int 0, .int (-1), .int (-1)])), (h2, .inl (k0, 6, .inr (.inr (.inr (.inr (va_up (va_up (va_up (va_up (va_up (va_up (fun _ => none) 0 (some h13)) 1 (some h14)) 2 (some h15)) 3 (some h16)) 4 (some h17)) 5 (some h18))))))), (h17, .inr (13, [.int 0, .int 0, .int 0, .int 0, .ref h19, .ref h20, .ref h21, .ref h22, .ref h23, .ref h24, .ref h25, .ref h26, .ref h27, .ref h28, .ref h29, .ref h30, .ref h31, .ref h32, .ref h33, .ref h34]))] U.heap ∧ va_K (dC, dI) vwCl [(k0, .object "PatternWorkshop$Tree")] U ∧ va_D (fun _ => True) [(h0, .inr (14, [.ref h1, .ref h2, .ref h3, .ref h4, .int 0, .ref h5, .ref h6, .ref h7, .ref h8, .ref h9, .ref h10, .ref h11, .ref h12, .int (-1), .int 0, .int 0, .int (-1), .int (-1)])), (h2, .inl (k0, 6, .inr (.inr (.inr (.inr (va_up (va_up (va_up (va_up (va_up (va_up (fun _ => none) 0 (some h13)) 1 (some h14)) 2 (some h15)) 3 (some h16)) 4 (some h17)) 5 (some h18))))))), (h17, .inr (13, [.int 0, .int 0, .int 0, .int 0, .ref h19, .ref h20, .ref h21, .ref h22, .ref h23, .ref h24, .ref h25, .ref h26, .ref h27, .ref h28, .ref h29, .ref h30, .ref h31, .ref h32, .ref h33, .ref h34]))])) (va_Qq (fun (r : Option Nat) (u : Nat) => (u = 0 ∧ r = none)) (fun (_ : Nat) (t : State) => (va_P (dC, dI) vwCl [] t.heap ∧ va_K (dC, dI) vwCl [] t ∧ va_D (va_A [(h0, .inr (14, [.ref h1, .ref h2, .ref h3, .ref h4, .int 0, .ref h5, .ref h6, .ref h7, .ref h8, .ref h9, .ref h10, .ref h11, .ref h12, .int (-1), .int 0, .int 0, .int (-1), .int (-1)])), (h2, .inl (k0, 6, .inr (.inr (.inr (.inr (va_up (va_up (va_up (va_up (va_up (va_up (fun _ => none) 0 (some h13)) 1 (some h14)) 2 (some h15)) 3 (some h16)) 4 (some h17)) 5 (some h18))))))), (h17, .inr (13, [.int 0, .int 0, .int 0, .int 0, .ref h19, .ref h20, .ref h21, .ref h22, .ref h23, .ref h24, .ref h25, .ref h26, .ref h27, .ref h28, .ref h29, .ref h30, .ref h31, .ref h32, .ref h33, .ref h34]))] sz) [])) (va_A [(h0, .inr (14, [.ref h1, .ref h2, .ref h3, .ref h4, .int 0, .ref h5, .ref h6, .ref h7, .ref h8, .ref h9, .ref h10, .ref h11, .ref h12, .int (-1), .int 0, .int 0, .int (-1), .int (-1)])), (h2, .inl (k0, 6, .inr (.inr (.inr (.inr (va_up (va_up (va_up (va_up (va_up (va_up (fun _ => none) 0 (some h13)) 1 (some h14)) 2 (some h15)) 3 (some h16)) 4 (some h17)) 5 (some h18))))))), (h17, .inr (13, [.int 0, .int 0, .int 0, .int 0, .ref h19, .ref h20, .ref h21, .ref h22, .ref h23, .ref h24, .ref h25, .ref h26, .ref h27, .ref h28, .ref h29, .ref h30, .ref h31, .ref h32, .ref h33, .ref h34]))] sz)) 0 0 (va_A [(h0, .inr (14, [.ref h1, .ref h2, .ref h3, .ref h4, .int 0, .ref h5, .ref h6, .ref h7, .ref h8, .ref h9, .ref h10, .ref h11, .ref h12, .int (-1), .int 0, .int 0, .int (-1), .int (-1)])), (h2, .inl (k0, 6, .inr (.inr (.inr (.inr (va_up (va_up (va_up (va_up (va_up (va_up (fun _ => none) 0 (some h13)) 1 (some h14)) 2 (some h15)) 3 (some h16)) 4 (some h17)) 5 (some h18))))))), (h17, .inr (13, [.int 0, .int 0, .int 0, .int 0, .ref h19, .ref h20, .ref h21, .ref h22, .ref h23, .ref h24, .ref h25, .ref h26, .ref h27, .ref h28, .ref h29, .ref h30, .ref h31, .ref h32, .ref h33, .ref h34]))] sz) := by
  refine Met.ofW (cc := cX11_patternIn) (maxL := 2) (ret := (some (.object "PatternWorkshop$Tree"))) (by decide) rfl ?_
  intro p e s m args below meth c s₁ B hml hv
  obtain ⟨rfl, hsz, hP, hK, hD0⟩ := hv
  have hx := B.exec
  have hb := B.bytes
  have hr := B.returns
  have hts := atoms_spec (ws := WS yX11_patternIn cX11_patternIn 2 (some (.object "PatternWorkshop$Tree"))) B.pre
  have ht : ∀ w ∈ TW, w.before _ s = true := fun w h => hts w (List.mem_cons_of_mem _ h)
  have hown : s.vm.findClass "PatternWorkshop" = some m.cls := findClass_of_methodNamed B.named
  have hlocks := B.notSynchronized
  subst hsz
  have hD := hD0.self (sz := s.heap.size)
  generalize hAe : va_A [(h0, .inr (14, [.ref h1, .ref h2, .ref h3, .ref h4, .int 0, .ref h5, .ref h6, .ref h7, .ref h8, .ref h9, .ref h10, .ref h11, .ref h12, .int (-1), .int 0, .int 0, .int (-1), .int (-1)])), (h2, .inl (k0, 6, .inr (.inr (.inr (.inr (va_up (va_up (va_up (va_up (va_up (va_up (fun _ => none) 0 (some h13)) 1 (some h14)) 2 (some h15)) 3 (some h16)) 4 (some h17)) 5 (some h18))))))), (h17, .inr (13, [.int 0, .int 0, .int 0, .int 0, .ref h19, .ref h20, .ref h21, .ref h22, .ref h23, .ref h24, .ref h25, .ref h26, .ref h27, .ref h28, .ref h29, .ref h30, .ref h31, .ref h32, .ref h33, .ref h34]))] s.heap.size = A at hD ⊢
  have hA : ∀ q : Nat, s.heap.size ≤ q → A q := fun q h => by rw [← hAe]; exact Or.inr h
  have hS : va_S A s.heap s.heap [] := va_S.rf
  have hP : va_P (dC, dI) vwCl [(h0, .inr (14, [.ref h1, .ref h2, .ref h3, .ref h4, .int 0, .ref h5, .ref h6, .ref h7, .ref h8, .ref h9, .ref h10, .ref h11, .ref h12, .int (-1), .int 0, .int 0, .int (-1), .int (-1)])), (h2, .inl (k0, 6, .inr (.inr (.inr (.inr (va_up (va_up (va_up (va_up (va_up (va_up (fun _ => none) 0 (some h13)) 1 (some h14)) 2 (some h15)) 3 (some h16)) 4 (some h17)) 5 (some h18))))))), (h17, .inr (13, [.int 0, .int 0, .int 0, .int 0, .ref h19, .ref h20, .ref h21, .ref h22, .ref h23, .ref h24, .ref h25, .ref h26, .ref h27, .ref h28, .ref h29, .ref h30, .ref h31, .ref h32, .ref h33, .ref h34]))] s.heap := hP
  have hl := lv_entry ([.ref h0, .int 4]) (n := 2) (Nat.le_of_ble_eq_true rfl)
  rw [lg_entry_eq]
  generalize (lg_sl ([.ref h0, .int 4]) ++ List.replicate (2 - (lg_sl ([.ref h0, .int 4])).length) Slot.unset).toArray = ls at hl ⊢
  have hl : lv_has ls 2 [(0, .ref h0), (1, .int 4)] := hl
  clear hD0
  refine lv_iload_n hx hb dX11_patternIn_0 rfl (lv_at hl 1 rfl) ?_
  have hPc_1 := hP.sub (ws' := []) [] rfl
  have hDc_1 := hD.sub (ws' := []) [] (by decide) rfl
  have hKc_1 := hK.sub (tys' := []) [] rfl
  have hFc_1 := va_free (wc := []) hD hS hA [] rfl
  refine va_calli (va_runS (As := [.int 4]) (rest := []) ⟨hx, hb, hml, hown, ht⟩ (mt_X11_isSlot_v3 l dC dI s.heap.size) (cwS 1 ht (goodS tw_873 tw_874 tw_236 gw_X11_isSlot) rfl rfl rfl (by decide +kernel) ⟨Nat.le_of_ble_eq_true rfl, Nat.le_of_ble_eq_true rfl⟩) ⟨fun a U g mk q => by obtain ⟨q0, q1, qP, qK, qD⟩ := q; exact ⟨q0, q1, qP, va_K.moved (u := U) (U := U.calling g mk a) (Vm.Alike.refl U.vm) qK, qD⟩, fun U hU hW => ⟨rfl, by rw [hU], by rw [hU]; exact hPc_1, va_K.moved hW.alike hKc_1, hDc_1.weaken (fun _ _ _ _ => trivial)⟩⟩ rfl rfl hl.1 rfl (lv_room (Nat.le_of_ble_eq_true rfl)) dX11_patternIn_1 ⟨Nat.le_of_ble_eq_true rfl, Nat.le_of_ble_eq_true rfl⟩) hS (fun q _ h => hFc_1 q h) hFc_1 (fun r_1 u_1 t_1 H_1 locs_1 ht_1 hvm_1 hw_1 hB_1 hz_1 hk_1 hS_1 => ?_)
  obtain ⟨rfl, rfl⟩ := hw_1
  obtain ⟨hP1_1, hK1_1, hD1_1⟩ := hB_1
  rw [ht_1] at hP1_1
  have hK1_1 := va_K.moved hvm_1.symm hK1_1
  obtain ⟨hP_1, hD_1⟩ := va_join (wr := [(h0, .inr (14, [.ref h1, .ref h2, .ref h3, .ref h4, .int 0, .ref h5, .ref h6, .ref h7, .ref h8, .ref h9, .ref h10, .ref h11, .ref h12, .int (-1), .int 0, .int 0, .int (-1), .int (-1)])), (h2, .inl (k0, 6, .inr (.inr (.inr (.inr (va_up (va_up (va_up (va_up (va_up (va_up (fun _ => none) 0 (some h13)) 1 (some h14)) 2 (some h15)) 3 (some h16)) 4 (some h17)) 5 (some h18))))))), (h17, .inr (13, [.int 0, .int 0, .int 0, .int 0, .ref h19, .ref h20, .ref h21, .ref h22, .ref h23, .ref h24, .ref h25, .ref h26, .ref h27, .ref h28, .ref h29, .ref h30, .ref h31, .ref h32, .ref h33, .ref h34]))]) (w1 := []) hP hD [] [0, 1, 2] rfl rfl (by decide) (by decide) hk_1 hFc_1 hP1_1 hD1_1
  have hK_1 := (hK.sub (tys' := [(k0, .object "PatternWorkshop$Tree")]) [0] rfl).app hK1_1
  have hK_1 : va_K (dC, dI) vwCl [(k0, .object "PatternWorkshop$Tree")] s := hK_1
  have hP_1 : va_P (dC, dI) vwCl [(h0, .inr (14, [.ref h1, .ref h2, .ref h3, .ref h4, .int 0, .ref h5, .ref h6, .ref h7, .ref h8, .ref h9, .ref h10, .ref h11, .ref h12, .int (-1), .int 0, .int 0, .int (-1), .int (-1)])), (h2, .inl (k0, 6, .inr (.inr (.inr (.inr (va_up (va_up (va_up (va_up (va_up (va_up (fun _ => none) 0 (some h13)) 1 (some h14)) 2 (some h15)) 3 (some h16)) 4 (some h17)) 5 (some h18))))))), (h17, .inr (13, [.int 0, .int 0, .int 0, .int 0, .ref h19, .ref h20, .ref h21, .ref h22, .ref h23, .ref h24, .ref h25, .ref h26, .ref h27, .ref h28, .ref h29, .ref h30, .ref h31, .ref h32, .ref h33, .ref h34]))] H_1 := hP_1
  have hD_1 : va_D A [(h0, .inr (14, [.ref h1, .ref h2, .ref h3, .ref h4, .int 0, .ref h5, .ref h6, .ref h7, .ref h8, .ref h9, .ref h10, .ref h11, .ref h12, .int (-1), .int 0, .int 0, .int (-1), .int (-1)])), (h2, .inl (k0, 6, .inr (.inr (.inr (.inr (va_up (va_up (va_up (va_up (va_up (va_up (fun _ => none) 0 (some h13)) 1 (some h14)) 2 (some h15)) 3 (some h16)) 4 (some h17)) 5 (some h18))))))), (h17, .inr (13, [.int 0, .int 0, .int 0, .int 0, .ref h19, .ref h20, .ref h21, .ref h22, .ref h23, .ref h24, .ref h25, .ref h26, .ref h27, .ref h28, .ref h29, .ref h30, .ref h31, .ref h32, .ref h33, .ref h34]))] := hD_1
  clear hP hD hS hK hPc_1 hDc_1 hKc_1 hFc_1 hP1_1 hK1_1 hD1_1 hk_1 hz_1
  refine lv_if_ne (tgt := 9) hx hb dX11_patternIn_4 (by decide) (fun _ => ?_) (fun c_ => absurd c_ (by decide))
  refine lv_aload_n hx hb dX11_patternIn_9 rfl (lv_at hl 0 rfl) ?_
  refine va_get (D := (dC, dI)) (ci := 14) (v := .ref h2) (C := RX11) (T := TX11) (N := 18) hx hb ht inX11 hown hK_1 hP_1 0 rfl rfl 1 (by decide) (ht _ tw_801) (fun _ h9 => h9) rfl dX11_patternIn_10 ?_
  refine lv_iload_n hx hb dX11_patternIn_13 rfl (lv_at hl 1 rfl) ?_
  refine va_aldq hx hb hK_1 hP_1 1 0 rfl rfl (i := 4) (vpi (by decide)) dX11_patternIn_14 ?_
  refine W.eq (g2 := F0 m 15 ls [.ref h17]) rfl ?_
  refine va_get (D := (dC, dI)) (ci := 13) (v := .int 0) (C := RX10) (T := TX10) (N := 20) hx hb ht inX10 hown hK_1 hP_1 2 rfl rfl 0 (by decide) (ht _ tw_318) (fun _ h9 => h9) rfl dX11_patternIn_15 ?_
  refine lv_if_ne (tgt := 28) hx hb dX11_patternIn_18 (by decide) (fun c_ => absurd (by decide) c_) (fun _ => ?_)
  refine lv_aload_n hx hb dX11_patternIn_21 rfl (lv_at hl 0 rfl) ?_
  refine lv_iconst (v := 2) hx hb dX11_patternIn_22 (by decide) ?_
  refine va_put (D := (dC, dI)) (ci := 14) (v := .int 2) (ty := .int) (C := RX11) (T := TX11) (N := 18) hx hb ht inX11 tyX11 tyX11_ok nmX11 hown hK_1 hP_1 hD_1 hS_1 0 rfl rfl 14 (by decide) (ht _ tw_814) (fun _ h9 => h9) rfl (by decide +kernel) rfl rfl (Nat.le_of_ble_eq_true rfl) dX11_patternIn_23 (fun H_2 locs_2 hP_2 hD_2 hS_2 => ?_)
  have hP_2 : va_P (dC, dI) vwCl [(h0, .inr (14, [.ref h1, .ref h2, .ref h3, .ref h4, .int 0, .ref h5, .ref h6, .ref h7, .ref h8, .ref h9, .ref h10, .ref h11, .ref h12, .int (-1), .int 2, .int 0, .int (-1), .int (-1)])), (h2, .inl (k0, 6, .inr (.inr (.inr (.inr (va_up (va_up (va_up (va_up (va_up (va_up (fun _ => none) 0 (some h13)) 1 (some h14)) 2 (some h15)) 3 (some h16)) 4 (some h17)) 5 (some h18))))))), (h17, .inr (13, [.int 0, .int 0, .int 0, .int 0, .ref h19, .ref h20, .ref h21, .ref h22, .ref h23, .ref h24, .ref h25, .ref h26, .ref h27, .ref h28, .ref h29, .ref h30, .ref h31, .ref h32, .ref h33, .ref h34]))] H_2 := hP_2
  have hD_2 : va_D A [(h0, .inr (14, [.ref h1, .ref h2, .ref h3, .ref h4, .int 0, .ref h5, .ref h6, .ref h7, .ref h8, .ref h9, .ref h10, .ref h11, .ref h12, .int (-1), .int 2, .int 0, .int (-1), .int (-1)])), (h2, .inl (k0, 6, .inr (.inr (.inr (.inr (va_up (va_up (va_up (va_up (va_up (va_up (fun _ => none) 0 (some h13)) 1 (some h14)) 2 (some h15)) 3 (some h16)) 4 (some h17)) 5 (some h18))))))), (h17, .inr (13, [.int 0, .int 0, .int 0, .int 0, .ref h19, .ref h20, .ref h21, .ref h22, .ref h23, .ref h24, .ref h25, .ref h26, .ref h27, .ref h28, .ref h29, .ref h30, .ref h31, .ref h32, .ref h33, .ref h34]))] := hD_2
  clear hP_1 hD_1 hS_1
  refine lv_null hx hb dX11_patternIn_26 ?_
  have hP9 := hP_2.sub (ws' := []) [] rfl
  have hD9 := hD_2.sub (ws' := []) [] (by decide) rfl
  have hK9 := hK_1.sub (tys' := []) [] rfl
  refine W.widen (k := 0) (n := 0) (by decide) (by decide) ?_
  exact W.aret (v := .null) hx hb hr (Or.inl ⟨_, rfl⟩) (Or.inl rfl) (fun t9 ht9 hW9 => ⟨⟨none, 0, rfl, ⟨rfl, rfl⟩, ⟨by rw [ht9]; exact hP9, va_K.moved hW9.alike hK9, hD9⟩⟩, hS_2.F ht9⟩) hS_2.2.2 dX11_patternIn_27
set_option maxHeartbeats 4000000 in
set_option maxRecDepth 100000 in
theorem mt_X11_isSlot_v4 (l : Launch) (dC : Nat → ClassId) (dI : Nat → Nat → Nat) (sz : Nat) : Met l yX11_isSlot (WS yX11_isSlot cX11_isSlot 1 (some (.boolean))) ({ frames := 0, cells := 0, slots := 0, locals := 0 }) (va_Pc [.int 3] (fun U => U.heap.size = sz ∧ va_P (dC, dI) vwCl [] U.heap ∧ va_K (dC, dI) vwCl [] U ∧ va_D (fun _ => True) [])) (va_Qi (fun (r : Int32) (u : Nat) => (u = 0 ∧ r = 1)) (fun (_ : Nat) (t : State) => (va_P (dC, dI) vwCl [] t.heap ∧ va_K (dC, dI) vwCl [] t ∧ va_D (va_A [] sz) [])) (va_A [] sz)) 0 0 (va_A [] sz) := by
  refine Met.ofW (cc := cX11_isSlot) (maxL := 1) (ret := (some (.boolean))) (by decide) rfl ?_
  intro p e s m args below meth c s₁ B hml hv
  obtain ⟨rfl, hsz, hP, hK, hD0⟩ := hv
  have hx := B.exec
  have hb := B.bytes
  have hr := B.returns
  have hts := atoms_spec (ws := WS yX11_isSlot cX11_isSlot 1 (some (.boolean))) B.pre
  have ht : ∀ w ∈ TW, w.before _ s = true := fun w h => hts w (List.mem_cons_of_mem _ h)
  have hown : s.vm.findClass "PatternWorkshop" = some m.cls := findClass_of_methodNamed B.named
  have hlocks := B.notSynchronized
  subst hsz
  have hD := hD0.self (sz := s.heap.size)
  generalize hAe : va_A [] s.heap.size = A at hD ⊢
  have hA : ∀ q : Nat, s.heap.size ≤ q → A q := fun q h => by rw [← hAe]; exact Or.inr h
  have hS : va_S A s.heap s.heap [] := va_S.rf
  have hP : va_P (dC, dI) vwCl [] s.heap := hP
  have hl := lv_entry ([.int 3]) (n := 1) (Nat.le_of_ble_eq_true rfl)
  rw [lg_entry_eq]
  generalize (lg_sl ([.int 3]) ++ List.replicate (1 - (lg_sl ([.int 3])).length) Slot.unset).toArray = ls at hl ⊢
  have hl : lv_has ls 1 [(0, .int 3)] := hl
  clear hD0
  refine lv_iload_n hx hb dX11_isSlot_0 rfl (lv_at hl 0 rfl) ?_
  refine lv_if_lt (tgt := 14) hx hb dX11_isSlot_1 (by decide) (fun c_ => absurd c_ (by decide)) (fun _ => ?_)
  refine lv_iload_n hx hb dX11_isSlot_4 rfl (lv_at hl 0 rfl) ?_
  refine lv_bipush (v := 6) hx hb dX11_isSlot_5 (by decide) ?_
  refine lv_icmp_ge (tgt := 14) hx hb dX11_isSlot_7 (by decide) (fun c_ => absurd c_ (by decide)) (fun _ => ?_)
  refine lv_iconst (v := 1) hx hb dX11_isSlot_10 (by decide) ?_
  refine lv_goto (tgt := 15) hx hb dX11_isSlot_11 (by decide) ?_
  have hP9 := hP.sub (ws' := []) [] rfl
  have hD9 := hD.sub (ws' := []) [] (by decide) rfl
  have hK9 := hK.sub (tys' := []) [] rfl
  refine W.widen (k := 0) (n := 0) (by decide) (by decide) ?_
  exact W.zret (v := 1) hx hb hr rfl (fun t9 ht9 hW9 => ⟨⟨1, 0, rfl, ⟨rfl, rfl⟩, ⟨by rw [ht9]; exact hP9, va_K.moved hW9.alike hK9, hD9⟩⟩, hS.F ht9⟩) hS.2.2 dX11_isSlot_15
set_option maxHeartbeats 4000000 in
set_option maxRecDepth 100000 in
theorem mt_X11_patternIn_v4 (l : Launch) (dC : Nat → ClassId) (dI : Nat → Nat → Nat) (h0 h1 h2 h3 h4 h5 h6 h7 h8 h9 h10 h11 h12 h13 h14 h15 h16 h17 h18 h19 h20 h21 h22 h23 h24 h25 h26 h27 h28 h29 h30 h31 h32 h33 h34 : Nat) (k0 : ClassId) (sz : Nat) : Met l yX11_patternIn (WS yX11_patternIn cX11_patternIn 2 (some (.object "PatternWorkshop$Tree"))) ({ frames := 1, cells := 0, slots := 0, locals := 20 }) (va_Pc [.ref h0, .int 3] (fun U => U.heap.size = sz ∧ va_P (dC, dI) vwCl [(h0, .inr (14, [.ref h1, .ref h2, .ref h3, .ref h4, .int 0, .ref h5, .ref h6, .ref h7, .ref h8, .ref h9, .ref h10, .ref h11, .ref h12, .int (-1), .int 0, .int 0, .int (-1), .int (-1)])), (h2, .inl (k0, 6, .inr (.inr (.inr (.inr (va_up (va_up (va_up (va_up (va_up (va_up (fun _ => none) 0 (some h13)) 1 (some h14)) 2 (some h15)) 3 (some h16)) 4 (some h17)) 5 (some h18))))))), (h16, .inr (13, [.int 0, .int 0, .int 0, .int 0, .ref h19, .ref h20, .ref h21, .ref h22, .ref h23, .ref h24, .ref h25, .ref h26, .ref h27, .ref h28, .ref h29, .ref h30, .ref h31, .ref h32, .ref h33, .ref h34]))] U.heap ∧ va_K (dC, dI) vwCl [(k0, .object "PatternWorkshop$Tree")] U ∧ va_D (fun _ => True) [(h0, .inr (14, [.ref h1, .ref h2, .ref h3, .ref h4, .int 0, .ref h5, .ref h6, .ref h7, .ref h8, .ref h9, .ref h10, .ref h11, .ref h12, .int (-1), .int 0, .int 0, .int (-1), .int (-1)])), (h2, .inl (k0, 6, .inr (.inr (.inr (.inr (va_up (va_up (va_up (va_up (va_up (va_up (fun _ => none) 0 (some h13)) 1 (some h14)) 2 (some h15)) 3 (some h16)) 4 (some h17)) 5 (some h18))))))), (h16, .inr (13, [.int 0, .int 0, .int 0, .int 0, .ref h19, .ref h20, .ref h21, .ref h22, .ref h23, .ref h24, .ref h25, .ref h26, .ref h27, .ref h28, .ref h29, .ref h30, .ref h31, .ref h32, .ref h33, .ref h34]))])) (va_Qq (fun (r : Option Nat) (u : Nat) => (u = 0 ∧ r = none)) (fun (_ : Nat) (t : State) => (va_P (dC, dI) vwCl [] t.heap ∧ va_K (dC, dI) vwCl [] t ∧ va_D (va_A [(h0, .inr (14, [.ref h1, .ref h2, .ref h3, .ref h4, .int 0, .ref h5, .ref h6, .ref h7, .ref h8, .ref h9, .ref h10, .ref h11, .ref h12, .int (-1), .int 0, .int 0, .int (-1), .int (-1)])), (h2, .inl (k0, 6, .inr (.inr (.inr (.inr (va_up (va_up (va_up (va_up (va_up (va_up (fun _ => none) 0 (some h13)) 1 (some h14)) 2 (some h15)) 3 (some h16)) 4 (some h17)) 5 (some h18))))))), (h16, .inr (13, [.int 0, .int 0, .int 0, .int 0, .ref h19, .ref h20, .ref h21, .ref h22, .ref h23, .ref h24, .ref h25, .ref h26, .ref h27, .ref h28, .ref h29, .ref h30, .ref h31, .ref h32, .ref h33, .ref h34]))] sz) [])) (va_A [(h0, .inr (14, [.ref h1, .ref h2, .ref h3, .ref h4, .int 0, .ref h5, .ref h6, .ref h7, .ref h8, .ref h9, .ref h10, .ref h11, .ref h12, .int (-1), .int 0, .int 0, .int (-1), .int (-1)])), (h2, .inl (k0, 6, .inr (.inr (.inr (.inr (va_up (va_up (va_up (va_up (va_up (va_up (fun _ => none) 0 (some h13)) 1 (some h14)) 2 (some h15)) 3 (some h16)) 4 (some h17)) 5 (some h18))))))), (h16, .inr (13, [.int 0, .int 0, .int 0, .int 0, .ref h19, .ref h20, .ref h21, .ref h22, .ref h23, .ref h24, .ref h25, .ref h26, .ref h27, .ref h28, .ref h29, .ref h30, .ref h31, .ref h32, .ref h33, .ref h34]))] sz)) 0 0 (va_A [(h0, .inr (14, [.ref h1, .ref h2, .ref h3, .ref h4, .int 0, .ref h5, .ref h6, .ref h7, .ref h8, .ref h9, .ref h10, .ref h11, .ref h12, .int (-1), .int 0, .int 0, .int (-1), .int (-1)])), (h2, .inl (k0, 6, .inr (.inr (.inr (.inr (va_up (va_up (va_up (va_up (va_up (va_up (fun _ => none) 0 (some h13)) 1 (some h14)) 2 (some h15)) 3 (some h16)) 4 (some h17)) 5 (some h18))))))), (h16, .inr (13, [.int 0, .int 0, .int 0, .int 0, .ref h19, .ref h20, .ref h21, .ref h22, .ref h23, .ref h24, .ref h25, .ref h26, .ref h27, .ref h28, .ref h29, .ref h30, .ref h31, .ref h32, .ref h33, .ref h34]))] sz) := by
  refine Met.ofW (cc := cX11_patternIn) (maxL := 2) (ret := (some (.object "PatternWorkshop$Tree"))) (by decide) rfl ?_
  intro p e s m args below meth c s₁ B hml hv
  obtain ⟨rfl, hsz, hP, hK, hD0⟩ := hv
  have hx := B.exec
  have hb := B.bytes
  have hr := B.returns
  have hts := atoms_spec (ws := WS yX11_patternIn cX11_patternIn 2 (some (.object "PatternWorkshop$Tree"))) B.pre
  have ht : ∀ w ∈ TW, w.before _ s = true := fun w h => hts w (List.mem_cons_of_mem _ h)
  have hown : s.vm.findClass "PatternWorkshop" = some m.cls := findClass_of_methodNamed B.named
  have hlocks := B.notSynchronized
  subst hsz
  have hD := hD0.self (sz := s.heap.size)
  generalize hAe : va_A [(h0, .inr (14, [.ref h1, .ref h2, .ref h3, .ref h4, .int 0, .ref h5, .ref h6, .ref h7, .ref h8, .ref h9, .ref h10, .ref h11, .ref h12, .int (-1), .int 0, .int 0, .int (-1), .int (-1)])), (h2, .inl (k0, 6, .inr (.inr (.inr (.inr (va_up (va_up (va_up (va_up (va_up (va_up (fun _ => none) 0 (some h13)) 1 (some h14)) 2 (some h15)) 3 (some h16)) 4 (some h17)) 5 (some h18))))))), (h16, .inr (13, [.int 0, .int 0, .int 0, .int 0, .ref h19, .ref h20, .ref h21, .ref h22, .ref h23, .ref h24, .ref h25, .ref h26, .ref h27, .ref h28, .ref h29, .ref h30, .ref h31, .ref h32, .ref h33, .ref h34]))] s.heap.size = A at hD ⊢
  have hA : ∀ q : Nat, s.heap.size ≤ q → A q := fun q h => by rw [← hAe]; exact Or.inr h
  have hS : va_S A s.heap s.heap [] := va_S.rf
  have hP : va_P (dC, dI) vwCl [(h0, .inr (14, [.ref h1, .ref h2, .ref h3, .ref h4, .int 0, .ref h5, .ref h6, .ref h7, .ref h8, .ref h9, .ref h10, .ref h11, .ref h12, .int (-1), .int 0, .int 0, .int (-1), .int (-1)])), (h2, .inl (k0, 6, .inr (.inr (.inr (.inr (va_up (va_up (va_up (va_up (va_up (va_up (fun _ => none) 0 (some h13)) 1 (some h14)) 2 (some h15)) 3 (some h16)) 4 (some h17)) 5 (some h18))))))), (h16, .inr (13, [.int 0, .int 0, .int 0, .int 0, .ref h19, .ref h20, .ref h21, .ref h22, .ref h23, .ref h24, .ref h25, .ref h26, .ref h27, .ref h28, .ref h29, .ref h30, .ref h31, .ref h32, .ref h33, .ref h34]))] s.heap := hP
  have hl := lv_entry ([.ref h0, .int 3]) (n := 2) (Nat.le_of_ble_eq_true rfl)
  rw [lg_entry_eq]
  generalize (lg_sl ([.ref h0, .int 3]) ++ List.replicate (2 - (lg_sl ([.ref h0, .int 3])).length) Slot.unset).toArray = ls at hl ⊢
  have hl : lv_has ls 2 [(0, .ref h0), (1, .int 3)] := hl
  clear hD0
  refine lv_iload_n hx hb dX11_patternIn_0 rfl (lv_at hl 1 rfl) ?_
  have hPc_1 := hP.sub (ws' := []) [] rfl
  have hDc_1 := hD.sub (ws' := []) [] (by decide) rfl
  have hKc_1 := hK.sub (tys' := []) [] rfl
  have hFc_1 := va_free (wc := []) hD hS hA [] rfl
  refine va_calli (va_runS (As := [.int 3]) (rest := []) ⟨hx, hb, hml, hown, ht⟩ (mt_X11_isSlot_v4 l dC dI s.heap.size) (cwS 1 ht (goodS tw_873 tw_874 tw_236 gw_X11_isSlot) rfl rfl rfl (by decide +kernel) ⟨Nat.le_of_ble_eq_true rfl, Nat.le_of_ble_eq_true rfl⟩) ⟨fun a U g mk q => by obtain ⟨q0, q1, qP, qK, qD⟩ := q; exact ⟨q0, q1, qP, va_K.moved (u := U) (U := U.calling g mk a) (Vm.Alike.refl U.vm) qK, qD⟩, fun U hU hW => ⟨rfl, by rw [hU], by rw [hU]; exact hPc_1, va_K.moved hW.alike hKc_1, hDc_1.weaken (fun _ _ _ _ => trivial)⟩⟩ rfl rfl hl.1 rfl (lv_room (Nat.le_of_ble_eq_true rfl)) dX11_patternIn_1 ⟨Nat.le_of_ble_eq_true rfl, Nat.le_of_ble_eq_true rfl⟩) hS (fun q _ h => hFc_1 q h) hFc_1 (fun r_1 u_1 t_1 H_1 locs_1 ht_1 hvm_1 hw_1 hB_1 hz_1 hk_1 hS_1 => ?_)
  obtain ⟨rfl, rfl⟩ := hw_1
  obtain ⟨hP1_1, hK1_1, hD1_1⟩ := hB_1
  rw [ht_1] at hP1_1
  have hK1_1 := va_K.moved hvm_1.symm hK1_1
  obtain ⟨hP_1, hD_1⟩ := va_join (wr := [(h0, .inr (14, [.ref h1, .ref h2, .ref h3, .ref h4, .int 0, .ref h5, .ref h6, .ref h7, .ref h8, .ref h9, .ref h10, .ref h11, .ref h12, .int (-1), .int 0, .int 0, .int (-1), .int (-1)])), (h2, .inl (k0, 6, .inr (.inr (.inr (.inr (va_up (va_up (va_up (va_up (va_up (va_up (fun _ => none) 0 (some h13)) 1 (some h14)) 2 (some h15)) 3 (some h16)) 4 (some h17)) 5 (some h18))))))), (h16, .inr (13, [.int 0, .int 0, .int 0, .int 0, .ref h19, .ref h20, .ref h21, .ref h22, .ref h23, .ref h24, .ref h25, .ref h26, .ref h27, .ref h28, .ref h29, .ref h30, .ref h31, .ref h32, .ref h33, .ref h34]))]) (w1 := []) hP hD [] [0, 1, 2] rfl rfl (by decide) (by decide) hk_1 hFc_1 hP1_1 hD1_1
  have hK_1 := (hK.sub (tys' := [(k0, .object "PatternWorkshop$Tree")]) [0] rfl).app hK1_1
  have hK_1 : va_K (dC, dI) vwCl [(k0, .object "PatternWorkshop$Tree")] s := hK_1
  have hP_1 : va_P (dC, dI) vwCl [(h0, .inr (14, [.ref h1, .ref h2, .ref h3, .ref h4, .int 0, .ref h5, .ref h6, .ref h7, .ref h8, .ref h9, .ref h10, .ref h11, .ref h12, .int (-1), .int 0, .int 0, .int (-1), .int (-1)])), (h2, .inl (k0, 6, .inr (.inr (.inr (.inr (va_up (va_up (va_up (va_up (va_up (va_up (fun _ => none) 0 (some h13)) 1 (some h14)) 2 (some h15)) 3 (some h16)) 4 (some h17)) 5 (some h18))))))), (h16, .inr (13, [.int 0, .int 0, .int 0, .int 0, .ref h19, .ref h20, .ref h21, .ref h22, .ref h23, .ref h24, .ref h25, .ref h26, .ref h27, .ref h28, .ref h29, .ref h30, .ref h31, .ref h32, .ref h33, .ref h34]))] H_1 := hP_1
  have hD_1 : va_D A [(h0, .inr (14, [.ref h1, .ref h2, .ref h3, .ref h4, .int 0, .ref h5, .ref h6, .ref h7, .ref h8, .ref h9, .ref h10, .ref h11, .ref h12, .int (-1), .int 0, .int 0, .int (-1), .int (-1)])), (h2, .inl (k0, 6, .inr (.inr (.inr (.inr (va_up (va_up (va_up (va_up (va_up (va_up (fun _ => none) 0 (some h13)) 1 (some h14)) 2 (some h15)) 3 (some h16)) 4 (some h17)) 5 (some h18))))))), (h16, .inr (13, [.int 0, .int 0, .int 0, .int 0, .ref h19, .ref h20, .ref h21, .ref h22, .ref h23, .ref h24, .ref h25, .ref h26, .ref h27, .ref h28, .ref h29, .ref h30, .ref h31, .ref h32, .ref h33, .ref h34]))] := hD_1
  clear hP hD hS hK hPc_1 hDc_1 hKc_1 hFc_1 hP1_1 hK1_1 hD1_1 hk_1 hz_1
  refine lv_if_ne (tgt := 9) hx hb dX11_patternIn_4 (by decide) (fun _ => ?_) (fun c_ => absurd c_ (by decide))
  refine lv_aload_n hx hb dX11_patternIn_9 rfl (lv_at hl 0 rfl) ?_
  refine va_get (D := (dC, dI)) (ci := 14) (v := .ref h2) (C := RX11) (T := TX11) (N := 18) hx hb ht inX11 hown hK_1 hP_1 0 rfl rfl 1 (by decide) (ht _ tw_801) (fun _ h9 => h9) rfl dX11_patternIn_10 ?_
  refine lv_iload_n hx hb dX11_patternIn_13 rfl (lv_at hl 1 rfl) ?_
  refine va_aldq hx hb hK_1 hP_1 1 0 rfl rfl (i := 3) (vpi (by decide)) dX11_patternIn_14 ?_
  refine W.eq (g2 := F0 m 15 ls [.ref h16]) rfl ?_
  refine va_get (D := (dC, dI)) (ci := 13) (v := .int 0) (C := RX10) (T := TX10) (N := 20) hx hb ht inX10 hown hK_1 hP_1 2 rfl rfl 0 (by decide) (ht _ tw_318) (fun _ h9 => h9) rfl dX11_patternIn_15 ?_
  refine lv_if_ne (tgt := 28) hx hb dX11_patternIn_18 (by decide) (fun c_ => absurd (by decide) c_) (fun _ => ?_)
  refine lv_aload_n hx hb dX11_patternIn_21 rfl (lv_at hl 0 rfl) ?_
  refine lv_iconst (v := 2) hx hb dX11_patternIn_22 (by decide) ?_
  refine va_put (D := (dC, dI)) (ci := 14) (v := .int 2) (ty := .int) (C := RX11) (T := TX11) (N := 18) hx hb ht inX11 tyX11 tyX11_ok nmX11 hown hK_1 hP_1 hD_1 hS_1 0 rfl rfl 14 (by decide) (ht _ tw_814) (fun _ h9 => h9) rfl (by decide +kernel) rfl rfl (Nat.le_of_ble_eq_true rfl) dX11_patternIn_23 (fun H_2 locs_2 hP_2 hD_2 hS_2 => ?_)
  have hP_2 : va_P (dC, dI) vwCl [(h0, .inr (14, [.ref h1, .ref h2, .ref h3, .ref h4, .int 0, .ref h5, .ref h6, .ref h7, .ref h8, .ref h9, .ref h10, .ref h11, .ref h12, .int (-1), .int 2, .int 0, .int (-1), .int (-1)])), (h2, .inl (k0, 6, .inr (.inr (.inr (.inr (va_up (va_up (va_up (va_up (va_up (va_up (fun _ => none) 0 (some h13)) 1 (some h14)) 2 (some h15)) 3 (some h16)) 4 (some h17)) 5 (some h18))))))), (h16, .inr (13, [.int 0, .int 0, .int 0, .int 0, .ref h19, .ref h20, .ref h21, .ref h22, .ref h23, .ref h24, .ref h25, .ref h26, .ref h27, .ref h28, .ref h29, .ref h30, .ref h31, .ref h32, .ref h33, .ref h34]))] H_2 := hP_2
  have hD_2 : va_D A [(h0, .inr (14, [.ref h1, .ref h2, .ref h3, .ref h4, .int 0, .ref h5, .ref h6, .ref h7, .ref h8, .ref h9, .ref h10, .ref h11, .ref h12, .int (-1), .int 2, .int 0, .int (-1), .int (-1)])), (h2, .inl (k0, 6, .inr (.inr (.inr (.inr (va_up (va_up (va_up (va_up (va_up (va_up (fun _ => none) 0 (some h13)) 1 (some h14)) 2 (some h15)) 3 (some h16)) 4 (some h17)) 5 (some h18))))))), (h16, .inr (13, [.int 0, .int 0, .int 0, .int 0, .ref h19, .ref h20, .ref h21, .ref h22, .ref h23, .ref h24, .ref h25, .ref h26, .ref h27, .ref h28, .ref h29, .ref h30, .ref h31, .ref h32, .ref h33, .ref h34]))] := hD_2
  clear hP_1 hD_1 hS_1
  refine lv_null hx hb dX11_patternIn_26 ?_
  have hP9 := hP_2.sub (ws' := []) [] rfl
  have hD9 := hD_2.sub (ws' := []) [] (by decide) rfl
  have hK9 := hK_1.sub (tys' := []) [] rfl
  refine W.widen (k := 0) (n := 0) (by decide) (by decide) ?_
  exact W.aret (v := .null) hx hb hr (Or.inl ⟨_, rfl⟩) (Or.inl rfl) (fun t9 ht9 hW9 => ⟨⟨none, 0, rfl, ⟨rfl, rfl⟩, ⟨by rw [ht9]; exact hP9, va_K.moved hW9.alike hK9, hD9⟩⟩, hS_2.F ht9⟩) hS_2.2.2 dX11_patternIn_27
set_option maxHeartbeats 4000000 in
set_option maxRecDepth 100000 in
theorem mt_X11_isSlot_v5 (l : Launch) (dC : Nat → ClassId) (dI : Nat → Nat → Nat) (sz : Nat) : Met l yX11_isSlot (WS yX11_isSlot cX11_isSlot 1 (some (.boolean))) ({ frames := 0, cells := 0, slots := 0, locals := 0 }) (va_Pc [.int 2] (fun U => U.heap.size = sz ∧ va_P (dC, dI) vwCl [] U.heap ∧ va_K (dC, dI) vwCl [] U ∧ va_D (fun _ => True) [])) (va_Qi (fun (r : Int32) (u : Nat) => (u = 0 ∧ r = 1)) (fun (_ : Nat) (t : State) => (va_P (dC, dI) vwCl [] t.heap ∧ va_K (dC, dI) vwCl [] t ∧ va_D (va_A [] sz) [])) (va_A [] sz)) 0 0 (va_A [] sz) := by
  refine Met.ofW (cc := cX11_isSlot) (maxL := 1) (ret := (some (.boolean))) (by decide) rfl ?_
  intro p e s m args below meth c s₁ B hml hv
  obtain ⟨rfl, hsz, hP, hK, hD0⟩ := hv
  have hx := B.exec
  have hb := B.bytes
  have hr := B.returns
  have hts := atoms_spec (ws := WS yX11_isSlot cX11_isSlot 1 (some (.boolean))) B.pre
  have ht : ∀ w ∈ TW, w.before _ s = true := fun w h => hts w (List.mem_cons_of_mem _ h)
  have hown : s.vm.findClass "PatternWorkshop" = some m.cls := findClass_of_methodNamed B.named
  have hlocks := B.notSynchronized
  subst hsz
  have hD := hD0.self (sz := s.heap.size)
  generalize hAe : va_A [] s.heap.size = A at hD ⊢
  have hA : ∀ q : Nat, s.heap.size ≤ q → A q := fun q h => by rw [← hAe]; exact Or.inr h
  have hS : va_S A s.heap s.heap [] := va_S.rf
  have hP : va_P (dC, dI) vwCl [] s.heap := hP
  have hl := lv_entry ([.int 2]) (n := 1) (Nat.le_of_ble_eq_true rfl)
  rw [lg_entry_eq]
  generalize (lg_sl ([.int 2]) ++ List.replicate (1 - (lg_sl ([.int 2])).length) Slot.unset).toArray = ls at hl ⊢
  have hl : lv_has ls 1 [(0, .int 2)] := hl
  clear hD0
  refine lv_iload_n hx hb dX11_isSlot_0 rfl (lv_at hl 0 rfl) ?_
  refine lv_if_lt (tgt := 14) hx hb dX11_isSlot_1 (by decide) (fun c_ => absurd c_ (by decide)) (fun _ => ?_)
  refine lv_iload_n hx hb dX11_isSlot_4 rfl (lv_at hl 0 rfl) ?_
  refine lv_bipush (v := 6) hx hb dX11_isSlot_5 (by decide) ?_
  refine lv_icmp_ge (tgt := 14) hx hb dX11_isSlot_7 (by decide) (fun c_ => absurd c_ (by decide)) (fun _ => ?_)
  refine lv_iconst (v := 1) hx hb dX11_isSlot_10 (by decide) ?_
  refine lv_goto (tgt := 15) hx hb dX11_isSlot_11 (by decide) ?_
  have hP9 := hP.sub (ws' := []) [] rfl
  have hD9 := hD.sub (ws' := []) [] (by decide) rfl
  have hK9 := hK.sub (tys' := []) [] rfl
  refine W.widen (k := 0) (n := 0) (by decide) (by decide) ?_
  exact W.zret (v := 1) hx hb hr rfl (fun t9 ht9 hW9 => ⟨⟨1, 0, rfl, ⟨rfl, rfl⟩, ⟨by rw [ht9]; exact hP9, va_K.moved hW9.alike hK9, hD9⟩⟩, hS.F ht9⟩) hS.2.2 dX11_isSlot_15
set_option maxHeartbeats 4000000 in
set_option maxRecDepth 100000 in
theorem mt_X11_patternIn_v5 (l : Launch) (dC : Nat → ClassId) (dI : Nat → Nat → Nat) (h0 h1 h2 h3 h4 h5 h6 h7 h8 h9 h10 h11 h12 h13 h14 h15 h16 h17 h18 h19 h20 h21 h22 h23 h24 h25 h26 h27 h28 h29 h30 h31 h32 h33 h34 : Nat) (k0 : ClassId) (sz : Nat) : Met l yX11_patternIn (WS yX11_patternIn cX11_patternIn 2 (some (.object "PatternWorkshop$Tree"))) ({ frames := 1, cells := 0, slots := 0, locals := 20 }) (va_Pc [.ref h0, .int 2] (fun U => U.heap.size = sz ∧ va_P (dC, dI) vwCl [(h0, .inr (14, [.ref h1, .ref h2, .ref h3, .ref h4, .int 0, .ref h5, .ref h6, .ref h7, .ref h8, .ref h9, .ref h10, .ref h11, .ref h12, .int (-1), .int 0, .int 0, .int (-1), .int (-1)])), (h2, .inl (k0, 6, .inr (.inr (.inr (.inr (va_up (va_up (va_up (va_up (va_up (va_up (fun _ => none) 0 (some h13)) 1 (some h14)) 2 (some h15)) 3 (some h16)) 4 (some h17)) 5 (some h18))))))), (h15, .inr (13, [.int 0, .int 0, .int 0, .int 0, .ref h19, .ref h20, .ref h21, .ref h22, .ref h23, .ref h24, .ref h25, .ref h26, .ref h27, .ref h28, .ref h29, .ref h30, .ref h31, .ref h32, .ref h33, .ref h34]))] U.heap ∧ va_K (dC, dI) vwCl [(k0, .object "PatternWorkshop$Tree")] U ∧ va_D (fun _ => True) [(h0, .inr (14, [.ref h1, .ref h2, .ref h3, .ref h4, .int 0, .ref h5, .ref h6, .ref h7, .ref h8, .ref h9, .ref h10, .ref h11, .ref h12, .int (-1), .int 0, .int 0, .int (-1), .int (-1)])), (h2, .inl (k0, 6, .inr (.inr (.inr (.inr (va_up (va_up (va_up (va_up (va_up (va_up (fun _ => none) 0 (some h13)) 1 (some h14)) 2 (some h15)) 3 (some h16)) 4 (some h17)) 5 (some h18))))))), (h15, .inr (13, [.int 0, .int 0, .int 0, .int 0, .ref h19, .ref h20, .ref h21, .ref h22, .ref h23, .ref h24, .ref h25, .ref h26, .ref h27, .ref h28, .ref h29, .ref h30, .ref h31, .ref h32, .ref h33, .ref h34]))])) (va_Qq (fun (r : Option Nat) (u : Nat) => (u = 0 ∧ r = none)) (fun (_ : Nat) (t : State) => (va_P (dC, dI) vwCl [] t.heap ∧ va_K (dC, dI) vwCl [] t ∧ va_D (va_A [(h0, .inr (14, [.ref h1, .ref h2, .ref h3, .ref h4, .int 0, .ref h5, .ref h6, .ref h7, .ref h8, .ref h9, .ref h10, .ref h11, .ref h12, .int (-1), .int 0, .int 0, .int (-1), .int (-1)])), (h2, .inl (k0, 6, .inr (.inr (.inr (.inr (va_up (va_up (va_up (va_up (va_up (va_up (fun _ => none) 0 (some h13)) 1 (some h14)) 2 (some h15)) 3 (some h16)) 4 (some h17)) 5 (some h18))))))), (h15, .inr (13, [.int 0, .int 0, .int 0, .int 0, .ref h19, .ref h20, .ref h21, .ref h22, .ref h23, .ref h24, .ref h25, .ref h26, .ref h27, .ref h28, .ref h29, .ref h30, .ref h31, .ref h32, .ref h33, .ref h34]))] sz) [])) (va_A [(h0, .inr (14, [.ref h1, .ref h2, .ref h3, .ref h4, .int 0, .ref h5, .ref h6, .ref h7, .ref h8, .ref h9, .ref h10, .ref h11, .ref h12, .int (-1), .int 0, .int 0, .int (-1), .int (-1)])), (h2, .inl (k0, 6, .inr (.inr (.inr (.inr (va_up (va_up (va_up (va_up (va_up (va_up (fun _ => none) 0 (some h13)) 1 (some h14)) 2 (some h15)) 3 (some h16)) 4 (some h17)) 5 (some h18))))))), (h15, .inr (13, [.int 0, .int 0, .int 0, .int 0, .ref h19, .ref h20, .ref h21, .ref h22, .ref h23, .ref h24, .ref h25, .ref h26, .ref h27, .ref h28, .ref h29, .ref h30, .ref h31, .ref h32, .ref h33, .ref h34]))] sz)) 0 0 (va_A [(h0, .inr (14, [.ref h1, .ref h2, .ref h3, .ref h4, .int 0, .ref h5, .ref h6, .ref h7, .ref h8, .ref h9, .ref h10, .ref h11, .ref h12, .int (-1), .int 0, .int 0, .int (-1), .int (-1)])), (h2, .inl (k0, 6, .inr (.inr (.inr (.inr (va_up (va_up (va_up (va_up (va_up (va_up (fun _ => none) 0 (some h13)) 1 (some h14)) 2 (some h15)) 3 (some h16)) 4 (some h17)) 5 (some h18))))))), (h15, .inr (13, [.int 0, .int 0, .int 0, .int 0, .ref h19, .ref h20, .ref h21, .ref h22, .ref h23, .ref h24, .ref h25, .ref h26, .ref h27, .ref h28, .ref h29, .ref h30, .ref h31, .ref h32, .ref h33, .ref h34]))] sz) := by
  refine Met.ofW (cc := cX11_patternIn) (maxL := 2) (ret := (some (.object "PatternWorkshop$Tree"))) (by decide) rfl ?_
  intro p e s m args below meth c s₁ B hml hv
  obtain ⟨rfl, hsz, hP, hK, hD0⟩ := hv
  have hx := B.exec
  have hb := B.bytes
  have hr := B.returns
  have hts := atoms_spec (ws := WS yX11_patternIn cX11_patternIn 2 (some (.object "PatternWorkshop$Tree"))) B.pre
  have ht : ∀ w ∈ TW, w.before _ s = true := fun w h => hts w (List.mem_cons_of_mem _ h)
  have hown : s.vm.findClass "PatternWorkshop" = some m.cls := findClass_of_methodNamed B.named
  have hlocks := B.notSynchronized
  subst hsz
  have hD := hD0.self (sz := s.heap.size)
  generalize hAe : va_A [(h0, .inr (14, [.ref h1, .ref h2, .ref h3, .ref h4, .int 0, .ref h5, .ref h6, .ref h7, .ref h8, .ref h9, .ref h10, .ref h11, .ref h12, .int (-1), .int 0, .int 0, .int (-1), .int (-1)])), (h2, .inl (k0, 6, .inr (.inr (.inr (.inr (va_up (va_up (va_up (va_up (va_up (va_up (fun _ => none) 0 (some h13)) 1 (some h14)) 2 (some h15)) 3 (some h16)) 4 (some h17)) 5 (some h18))))))), (h15, .inr (13, [.int 0, .int 0, .int 0, .int 0, .ref h19, .ref h20, .ref h21, .ref h22, .ref h23, .ref h24, .ref h25, .ref h26, .ref h27, .ref h28, .ref h29, .ref h30, .ref h31, .ref h32, .ref h33, .ref h34]))] s.heap.size = A at hD ⊢
  have hA : ∀ q : Nat, s.heap.size ≤ q → A q := fun q h => by rw [← hAe]; exact Or.inr h
  have hS : va_S A s.heap s.heap [] := va_S.rf
  have hP : va_P (dC, dI) vwCl [(h0, .inr (14, [.ref h1, .ref h2, .ref h3, .ref h4, .int 0, .ref h5, .ref h6, .ref h7, .ref h8, .ref h9, .ref h10, .ref h11, .ref h12, .int (-1), .int 0, .int 0, .int (-1), .int (-1)])), (h2, .inl (k0, 6, .inr (.inr (.inr (.inr (va_up (va_up (va_up (va_up (va_up (va_up (fun _ => none) 0 (some h13)) 1 (some h14)) 2 (some h15)) 3 (some h16)) 4 (some h17)) 5 (some h18))))))), (h15, .inr (13, [.int 0, .int 0, .int 0, .int 0, .ref h19, .ref h20, .ref h21, .ref h22, .ref h23, .ref h24, .ref h25, .ref h26, .ref h27, .ref h28, .ref h29, .ref h30, .ref h31, .ref h32, .ref h33, .ref h34]))] s.heap := hP
  have hl := lv_entry ([.ref h0, .int 2]) (n := 2) (Nat.le_of_ble_eq_true rfl)
  rw [lg_entry_eq]
  generalize (lg_sl ([.ref h0, .int 2]) ++ List.replicate (2 - (lg_sl ([.ref h0, .int 2])).length) Slot.unset).toArray = ls at hl ⊢
  have hl : lv_has ls 2 [(0, .ref h0), (1, .int 2)] := hl
  clear hD0
  refine lv_iload_n hx hb dX11_patternIn_0 rfl (lv_at hl 1 rfl) ?_
  have hPc_1 := hP.sub (ws' := []) [] rfl
  have hDc_1 := hD.sub (ws' := []) [] (by decide) rfl
  have hKc_1 := hK.sub (tys' := []) [] rfl
  have hFc_1 := va_free (wc := []) hD hS hA [] rfl
  refine va_calli (va_runS (As := [.int 2]) (rest := []) ⟨hx, hb, hml, hown, ht⟩ (mt_X11_isSlot_v5 l dC dI s.heap.size) (cwS 1 ht (goodS tw_873 tw_874 tw_236 gw_X11_isSlot) rfl rfl rfl (by decide +kernel) ⟨Nat.le_of_ble_eq_true rfl, Nat.le_of_ble_eq_true rfl⟩) ⟨fun a U g mk q => by obtain ⟨q0, q1, qP, qK, qD⟩ := q; exact ⟨q0, q1, qP, va_K.moved (u := U) (U := U.calling g mk a) (Vm.Alike.refl U.vm) qK, qD⟩, fun U hU hW => ⟨rfl, by rw [hU], by rw [hU]; exact hPc_1, va_K.moved hW.alike hKc_1, hDc_1.weaken (fun _ _ _ _ => trivial)⟩⟩ rfl rfl hl.1 rfl (lv_room (Nat.le_of_ble_eq_true rfl)) dX11_patternIn_1 ⟨Nat.le_of_ble_eq_true rfl, Nat.le_of_ble_eq_true rfl⟩) hS (fun q _ h => hFc_1 q h) hFc_1 (fun r_1 u_1 t_1 H_1 locs_1 ht_1 hvm_1 hw_1 hB_1 hz_1 hk_1 hS_1 => ?_)
  obtain ⟨rfl, rfl⟩ := hw_1
  obtain ⟨hP1_1, hK1_1, hD1_1⟩ := hB_1
  rw [ht_1] at hP1_1
  have hK1_1 := va_K.moved hvm_1.symm hK1_1
  obtain ⟨hP_1, hD_1⟩ := va_join (wr := [(h0, .inr (14, [.ref h1, .ref h2, .ref h3, .ref h4, .int 0, .ref h5, .ref h6, .ref h7, .ref h8, .ref h9, .ref h10, .ref h11, .ref h12, .int (-1), .int 0, .int 0, .int (-1), .int (-1)])), (h2, .inl (k0, 6, .inr (.inr (.inr (.inr (va_up (va_up (va_up (va_up (va_up (va_up (fun _ => none) 0 (some h13)) 1 (some h14)) 2 (some h15)) 3 (some h16)) 4 (some h17)) 5 (some h18))))))), (h15, .inr (13, [.int 0, .int 0, .int 0, .int 0, .ref h19, .ref h20, .ref h21, .ref h22, .ref h23, .ref h24, .ref h25, .ref h26, .ref h27, .ref h28, .ref h29, .ref h30, .ref h31, .ref h32, .ref h33, .ref h34]))]) (w1 := []) hP hD [] [0, 1, 2] rfl rfl (by decide) (by decide) hk_1 hFc_1 hP1_1 hD1_1
  have hK_1 := (hK.sub (tys' := [(k0, .object "PatternWorkshop$Tree")]) [0] rfl).app hK1_1
  have hK_1 : va_K (dC, dI) vwCl [(k0, .object "PatternWorkshop$Tree")] s := hK_1
  have hP_1 : va_P (dC, dI) vwCl [(h0, .inr (14, [.ref h1, .ref h2, .ref h3, .ref h4, .int 0, .ref h5, .ref h6, .ref h7, .ref h8, .ref h9, .ref h10, .ref h11, .ref h12, .int (-1), .int 0, .int 0, .int (-1), .int (-1)])), (h2, .inl (k0, 6, .inr (.inr (.inr (.inr (va_up (va_up (va_up (va_up (va_up (va_up (fun _ => none) 0 (some h13)) 1 (some h14)) 2 (some h15)) 3 (some h16)) 4 (some h17)) 5 (some h18))))))), (h15, .inr (13, [.int 0, .int 0, .int 0, .int 0, .ref h19, .ref h20, .ref h21, .ref h22, .ref h23, .ref h24, .ref h25, .ref h26, .ref h27, .ref h28, .ref h29, .ref h30, .ref h31, .ref h32, .ref h33, .ref h34]))] H_1 := hP_1
  have hD_1 : va_D A [(h0, .inr (14, [.ref h1, .ref h2, .ref h3, .ref h4, .int 0, .ref h5, .ref h6, .ref h7, .ref h8, .ref h9, .ref h10, .ref h11, .ref h12, .int (-1), .int 0, .int 0, .int (-1), .int (-1)])), (h2, .inl (k0, 6, .inr (.inr (.inr (.inr (va_up (va_up (va_up (va_up (va_up (va_up (fun _ => none) 0 (some h13)) 1 (some h14)) 2 (some h15)) 3 (some h16)) 4 (some h17)) 5 (some h18))))))), (h15, .inr (13, [.int 0, .int 0, .int 0, .int 0, .ref h19, .ref h20, .ref h21, .ref h22, .ref h23, .ref h24, .ref h25, .ref h26, .ref h27, .ref h28, .ref h29, .ref h30, .ref h31, .ref h32, .ref h33, .ref h34]))] := hD_1
  clear hP hD hS hK hPc_1 hDc_1 hKc_1 hFc_1 hP1_1 hK1_1 hD1_1 hk_1 hz_1
  refine lv_if_ne (tgt := 9) hx hb dX11_patternIn_4 (by decide) (fun _ => ?_) (fun c_ => absurd c_ (by decide))
  refine lv_aload_n hx hb dX11_patternIn_9 rfl (lv_at hl 0 rfl) ?_
  refine va_get (D := (dC, dI)) (ci := 14) (v := .ref h2) (C := RX11) (T := TX11) (N := 18) hx hb ht inX11 hown hK_1 hP_1 0 rfl rfl 1 (by decide) (ht _ tw_801) (fun _ h9 => h9) rfl dX11_patternIn_10 ?_
  refine lv_iload_n hx hb dX11_patternIn_13 rfl (lv_at hl 1 rfl) ?_
  refine va_aldq hx hb hK_1 hP_1 1 0 rfl rfl (i := 2) (vpi (by decide)) dX11_patternIn_14 ?_
  refine W.eq (g2 := F0 m 15 ls [.ref h15]) rfl ?_
  refine va_get (D := (dC, dI)) (ci := 13) (v := .int 0) (C := RX10) (T := TX10) (N := 20) hx hb ht inX10 hown hK_1 hP_1 2 rfl rfl 0 (by decide) (ht _ tw_318) (fun _ h9 => h9) rfl dX11_patternIn_15 ?_
  refine lv_if_ne (tgt := 28) hx hb dX11_patternIn_18 (by decide) (fun c_ => absurd (by decide) c_) (fun _ => ?_)
  refine lv_aload_n hx hb dX11_patternIn_21 rfl (lv_at hl 0 rfl) ?_
  refine lv_iconst (v := 2) hx hb dX11_patternIn_22 (by decide) ?_
  refine va_put (D := (dC, dI)) (ci := 14) (v := .int 2) (ty := .int) (C := RX11) (T := TX11) (N := 18) hx hb ht inX11 tyX11 tyX11_ok nmX11 hown hK_1 hP_1 hD_1 hS_1 0 rfl rfl 14 (by decide) (ht _ tw_814) (fun _ h9 => h9) rfl (by decide +kernel) rfl rfl (Nat.le_of_ble_eq_true rfl) dX11_patternIn_23 (fun H_2 locs_2 hP_2 hD_2 hS_2 => ?_)
  have hP_2 : va_P (dC, dI) vwCl [(h0, .inr (14, [.ref h1, .ref h2, .ref h3, .ref h4, .int 0, .ref h5, .ref h6, .ref h7, .ref h8, .ref h9, .ref h10, .ref h11, .ref h12, .int (-1), .int 2, .int 0, .int (-1), .int (-1)])), (h2, .inl (k0, 6, .inr (.inr (.inr (.inr (va_up (va_up (va_up (va_up (va_up (va_up (fun _ => none) 0 (some h13)) 1 (some h14)) 2 (some h15)) 3 (some h16)) 4 (some h17)) 5 (some h18))))))), (h15, .inr (13, [.int 0, .int 0, .int 0, .int 0, .ref h19, .ref h20, .ref h21, .ref h22, .ref h23, .ref h24, .ref h25, .ref h26, .ref h27, .ref h28, .ref h29, .ref h30, .ref h31, .ref h32, .ref h33, .ref h34]))] H_2 := hP_2
  have hD_2 : va_D A [(h0, .inr (14, [.ref h1, .ref h2, .ref h3, .ref h4, .int 0, .ref h5, .ref h6, .ref h7, .ref h8, .ref h9, .ref h10, .ref h11, .ref h12, .int (-1), .int 2, .int 0, .int (-1), .int (-1)])), (h2, .inl (k0, 6, .inr (.inr (.inr (.inr (va_up (va_up (va_up (va_up (va_up (va_up (fun _ => none) 0 (some h13)) 1 (some h14)) 2 (some h15)) 3 (some h16)) 4 (some h17)) 5 (some h18))))))), (h15, .inr (13, [.int 0, .int 0, .int 0, .int 0, .ref h19, .ref h20, .ref h21, .ref h22, .ref h23, .ref h24, .ref h25, .ref h26, .ref h27, .ref h28, .ref h29, .ref h30, .ref h31, .ref h32, .ref h33, .ref h34]))] := hD_2
  clear hP_1 hD_1 hS_1
  refine lv_null hx hb dX11_patternIn_26 ?_
  have hP9 := hP_2.sub (ws' := []) [] rfl
  have hD9 := hD_2.sub (ws' := []) [] (by decide) rfl
  have hK9 := hK_1.sub (tys' := []) [] rfl
  refine W.widen (k := 0) (n := 0) (by decide) (by decide) ?_
  exact W.aret (v := .null) hx hb hr (Or.inl ⟨_, rfl⟩) (Or.inl rfl) (fun t9 ht9 hW9 => ⟨⟨none, 0, rfl, ⟨rfl, rfl⟩, ⟨by rw [ht9]; exact hP9, va_K.moved hW9.alike hK9, hD9⟩⟩, hS_2.F ht9⟩) hS_2.2.2 dX11_patternIn_27
