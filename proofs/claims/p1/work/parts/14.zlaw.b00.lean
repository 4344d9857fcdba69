set_option maxHeartbeats 4000000 in
set_option maxRecDepth 100000 in
theorem mt_X11_feed (l : Launch) (dC : Nat → ClassId) (dI : Nat → Nat → Nat) (h0 h1 h2 h3 h4 h5 h6 h7 h8 h9 h10 h11 h12 : Nat) (p0 : Int32) (w0 : Int64) (a_0 : p0 < 1) (sz : Nat) : Met l yX11_feed (WS yX11_feed cX11_feed 5 (some (.int))) ({ frames := 0, cells := 0, slots := 0, locals := 0 }) (va_Pc [.ref h0, .int p0, .long w0] (fun U => U.heap.size = sz ∧ va_P (dC, dI) vwCl [(h0, .inr (14, [.ref h1, .ref h2, .ref h3, .ref h4, .int 0, .ref h5, .ref h6, .ref h7, .ref h8, .ref h9, .ref h10, .ref h11, .ref h12, .int (-1), .int 0, .int 0, .int (-1), .int (-1)]))] U.heap ∧ va_K (dC, dI) vwCl [] U ∧ va_D (fun _ => True) [(h0, .inr (14, [.ref h1, .ref h2, .ref h3, .ref h4, .int 0, .ref h5, .ref h6, .ref h7, .ref h8, .ref h9, .ref h10, .ref h11, .ref h12, .int (-1), .int 0, .int 0, .int (-1), .int (-1)]))])) (va_Qi (fun (r : Int32) (u : Nat) => (u = 0 ∧ r = (-4))) (fun (_ : Nat) (t : State) => (va_P (dC, dI) vwCl [] t.heap ∧ va_K (dC, dI) vwCl [] t ∧ va_D (va_A [(h0, .inr (14, [.ref h1, .ref h2, .ref h3, .ref h4, .int 0, .ref h5, .ref h6, .ref h7, .ref h8, .ref h9, .ref h10, .ref h11, .ref h12, .int (-1), .int 0, .int 0, .int (-1), .int (-1)]))] sz) [])) (va_A [(h0, .inr (14, [.ref h1, .ref h2, .ref h3, .ref h4, .int 0, .ref h5, .ref h6, .ref h7, .ref h8, .ref h9, .ref h10, .ref h11, .ref h12, .int (-1), .int 0, .int 0, .int (-1), .int (-1)]))] sz)) 0 0 (va_A [(h0, .inr (14, [.ref h1, .ref h2, .ref h3, .ref h4, .int 0, .ref h5, .ref h6, .ref h7, .ref h8, .ref h9, .ref h10, .ref h11, .ref h12, .int (-1), .int 0, .int 0, .int (-1), .int (-1)]))] sz) := by
  refine Met.ofW (cc := cX11_feed) (maxL := 5) (ret := (some (.int))) (by decide) rfl ?_
  intro p e s m args below meth c s₁ B hml hv
  obtain ⟨rfl, hsz, hP, hK, hD0⟩ := hv
  have hx := B.exec
  have hb := B.bytes
  have hr := B.returns
  have hts := atoms_spec (ws := WS yX11_feed cX11_feed 5 (some (.int))) B.pre
  have ht : ∀ w ∈ TW, w.before _ s = true := fun w h => hts w (List.mem_cons_of_mem _ h)
  have hown : s.vm.findClass "PatternWorkshop" = some m.cls := findClass_of_methodNamed B.named
  have hlocks := B.notSynchronized
  subst hsz
  have hD := hD0.self (sz := s.heap.size)
  generalize hAe : va_A [(h0, .inr (14, [.ref h1, .ref h2, .ref h3, .ref h4, .int 0, .ref h5, .ref h6, .ref h7, .ref h8, .ref h9, .ref h10, .ref h11, .ref h12, .int (-1), .int 0, .int 0, .int (-1), .int (-1)]))] s.heap.size = A at hD ⊢
  have hA : ∀ q : Nat, s.heap.size ≤ q → A q := fun q h => by rw [← hAe]; exact Or.inr h
  have hS : va_S A s.heap s.heap [] := va_S.rf
  have hP : va_P (dC, dI) vwCl [(h0, .inr (14, [.ref h1, .ref h2, .ref h3, .ref h4, .int 0, .ref h5, .ref h6, .ref h7, .ref h8, .ref h9, .ref h10, .ref h11, .ref h12, .int (-1), .int 0, .int 0, .int (-1), .int (-1)]))] s.heap := hP
  have hl := lv_entry ([.ref h0, .int p0, .long w0]) (n := 5) (Nat.le_of_ble_eq_true rfl)
  rw [lg_entry_eq]
  generalize (lg_sl ([.ref h0, .int p0, .long w0]) ++ List.replicate (5 - (lg_sl ([.ref h0, .int p0, .long w0])).length) Slot.unset).toArray = ls at hl ⊢
  have hl : lv_has ls 5 [(0, .ref h0), (1, .int p0), (2, .long w0)] := hl
  clear hD0
  refine lv_iload_n hx hb dX11_feed_0 rfl (lv_at hl 1 rfl) ?_
  refine lv_iconst (v := 1) hx hb dX11_feed_1 (by decide) ?_
  refine lv_icmp_lt (tgt := 11) hx hb dX11_feed_2 (by decide) (fun _ => ?_) (fun c_ => absurd a_0 c_)
  refine lv_bipush (v := (-4)) hx hb dX11_feed_11 (by decide) ?_
  have hP9 := hP.sub (ws' := []) [] rfl
  have hD9 := hD.sub (ws' := []) [] (by decide) rfl
  have hK9 := hK.sub (tys' := []) [] rfl
  refine W.widen (k := 0) (n := 0) (by decide) (by decide) ?_
  exact W.iret (v := (-4)) hx hb hr (fun t9 ht9 hW9 => ⟨⟨(-4), 0, rfl, ⟨rfl, rfl⟩, ⟨by rw [ht9]; exact hP9, va_K.moved hW9.alike hK9, hD9⟩⟩, hS.F ht9⟩) hS.2.2 dX11_feed_13
set_option maxHeartbeats 4000000 in
set_option maxRecDepth 100000 in
theorem mt_X12_in_v5 (l : Launch) (dC : Nat → ClassId) (dI : Nat → Nat → Nat) (p0 : Int32) (sz : Nat) : Met l yX12_in (WS yX12_in cX12_in 3 (some (.boolean))) ({ frames := 0, cells := 0, slots := 0, locals := 0 }) (va_Pc [.int p0, .int 1, .int 8] (fun U => U.heap.size = sz ∧ va_P (dC, dI) vwCl [] U.heap ∧ va_K (dC, dI) vwCl [] U ∧ va_D (fun _ => True) [])) (va_Qi (fun (r : Int32) (u : Nat) => (u = 0 ∧ r = 0 ∧ (p0 < 1)) ∨ (u = 1 ∧ r = 0 ∧ (¬ p0 < 1) ∧ (8 < p0)) ∨ (u = 2 ∧ r = 1 ∧ (¬ p0 < 1) ∧ (¬ 8 < p0))) (fun (_ : Nat) (t : State) => (va_P (dC, dI) vwCl [] t.heap ∧ va_K (dC, dI) vwCl [] t ∧ va_D (va_A [] sz) [])) (va_A [] sz)) 0 0 (va_A [] sz) := by
  refine Met.ofW (cc := cX12_in) (maxL := 3) (ret := (some (.boolean))) (by decide) rfl ?_
  intro p e s m args below meth c s₁ B hml hv
  obtain ⟨rfl, hsz, hP, hK, hD0⟩ := hv
  have hx := B.exec
  have hb := B.bytes
  have hr := B.returns
  have hts := atoms_spec (ws := WS yX12_in cX12_in 3 (some (.boolean))) B.pre
  have ht : ∀ w ∈ TW, w.before _ s = true := fun w h => hts w (List.mem_cons_of_mem _ h)
  have hown : s.vm.findClass "PatternWorkshopModel" = some m.cls := findClass_of_methodNamed B.named
  have hlocks := B.notSynchronized
  subst hsz
  have hD := hD0.self (sz := s.heap.size)
  generalize hAe : va_A [] s.heap.size = A at hD ⊢
  have hA : ∀ q : Nat, s.heap.size ≤ q → A q := fun q h => by rw [← hAe]; exact Or.inr h
  have hS : va_S A s.heap s.heap [] := va_S.rf
  have hP : va_P (dC, dI) vwCl [] s.heap := hP
  have hl := lv_entry ([.int p0, .int 1, .int 8]) (n := 3) (Nat.le_of_ble_eq_true rfl)
  rw [lg_entry_eq]
  generalize (lg_sl ([.int p0, .int 1, .int 8]) ++ List.replicate (3 - (lg_sl ([.int p0, .int 1, .int 8])).length) Slot.unset).toArray = ls at hl ⊢
  have hl : lv_has ls 3 [(0, .int p0), (1, .int 1), (2, .int 8)] := hl
  clear hD0
  refine lv_iload_n hx hb dX12_in_0 rfl (lv_at hl 0 rfl) ?_
  refine lv_iload_n hx hb dX12_in_1 rfl (lv_at hl 1 rfl) ?_
  refine lv_icmp_lt (tgt := 14) hx hb dX12_in_2 (by decide) (fun c_1 => ?_) (fun c_1 => ?_)
  · refine lv_iconst (v := 0) hx hb dX12_in_14 (by decide) ?_
    have hP9 := hP.sub (ws' := []) [] rfl
    have hD9 := hD.sub (ws' := []) [] (by decide) rfl
    have hK9 := hK.sub (tys' := []) [] rfl
    refine W.widen (k := 0) (n := 0) (by decide) (by decide) ?_
    exact W.zret (v := 0) hx hb hr rfl (fun t9 ht9 hW9 => ⟨⟨0, 0, rfl, (Or.inl ⟨rfl, rfl, c_1⟩), ⟨by rw [ht9]; exact hP9, va_K.moved hW9.alike hK9, hD9⟩⟩, hS.F ht9⟩) hS.2.2 dX12_in_15
  · refine lv_iload_n hx hb dX12_in_5 rfl (lv_at hl 0 rfl) ?_
    refine lv_iload_n hx hb dX12_in_6 rfl (lv_at hl 2 rfl) ?_
    refine lv_icmp_gt (tgt := 14) hx hb dX12_in_7 (by decide) (fun c_2 => ?_) (fun c_2 => ?_)
    · refine lv_iconst (v := 0) hx hb dX12_in_14 (by decide) ?_
      have hP9 := hP.sub (ws' := []) [] rfl
      have hD9 := hD.sub (ws' := []) [] (by decide) rfl
      have hK9 := hK.sub (tys' := []) [] rfl
      refine W.widen (k := 0) (n := 0) (by decide) (by decide) ?_
      exact W.zret (v := 0) hx hb hr rfl (fun t9 ht9 hW9 => ⟨⟨0, 1, rfl, (Or.inr (Or.inl ⟨rfl, rfl, c_1, c_2⟩)), ⟨by rw [ht9]; exact hP9, va_K.moved hW9.alike hK9, hD9⟩⟩, hS.F ht9⟩) hS.2.2 dX12_in_15
    · refine lv_iconst (v := 1) hx hb dX12_in_10 (by decide) ?_
      refine lv_goto (tgt := 15) hx hb dX12_in_11 (by decide) ?_
      have hP9 := hP.sub (ws' := []) [] rfl
      have hD9 := hD.sub (ws' := []) [] (by decide) rfl
      have hK9 := hK.sub (tys' := []) [] rfl
      refine W.widen (k := 0) (n := 0) (by decide) (by decide) ?_
      exact W.zret (v := 1) hx hb hr rfl (fun t9 ht9 hW9 => ⟨⟨1, 2, rfl, (Or.inr (Or.inr ⟨rfl, rfl, c_1, c_2⟩)), ⟨by rw [ht9]; exact hP9, va_K.moved hW9.alike hK9, hD9⟩⟩, hS.F ht9⟩) hS.2.2 dX12_in_15
set_option maxHeartbeats 4000000 in
set_option maxRecDepth 100000 in
theorem mt_X12_feed (l : Launch) (dC : Nat → ClassId) (dI : Nat → Nat → Nat) (h0 h1 h2 h3 h4 h5 h6 h7 h8 h9 h10 h11 h12 h13 h14 h15 h16 h17 h18 h19 h20 h21 h22 h23 h24 h25 h26 h27 h28 h29 h30 h31 h32 h33 h34 h35 h36 h37 h38 h39 h40 h41 h42 h43 h44 h45 h46 h47 h48 h49 h50 h51 h52 h53 h54 h55 h56 h57 h58 h59 h60 h61 h62 h63 h64 h65 h66 h67 h68 h69 h70 h71 h72 h73 h74 h75 h76 h77 h78 h79 h80 h81 h82 h83 h84 h85 h86 h87 h88 h89 h90 h91 h92 h93 h94 : Nat) (p0 : Int32) (w0 : Int64) (a_0 : p0 < 1) (sz : Nat) : Met l yX12_feed (WS yX12_feed cX12_feed 6 (some (.int))) ({ frames := 1, cells := 0, slots := 0, locals := 22 }) (va_Pc [.ref h0, .int p0, .long w0] (fun U => U.heap.size = sz ∧ va_P (dC, dI) vwCl [(h0, .inr (15, (.int 0 :: .int 0 :: .ref h1 :: .int 0 :: .int (-1) :: .ref h2 :: .ref h3 :: .ref h4 :: .ref h5 :: .ref h6 :: .ref h7 :: .ref h8 :: .ref h9 :: .ref h10 :: .ref h11 :: .ref h12 :: .ref h13 :: .ref h14 :: .ref h15 :: .ref h16 :: .ref h17 :: .ref h18 :: .ref h19 :: .ref h20 :: .ref h21 :: .ref h22 :: .ref h23 :: .ref h24 :: .ref h25 :: .ref h26 :: .ref h27 :: .int 0 :: .ref h28 :: .ref h29 :: .int 0 :: .int 0 :: .int 0 :: .int 0 :: .int 0 :: .int 0 :: .ref h30 :: .int 0 :: .ref h31 :: .ref h32 :: .ref h33 :: .ref h34 :: .ref h35 :: .ref h36 :: .ref h37 :: .ref h38 :: .int 0 :: .int 0 :: .int 0 :: .int 0 :: .ref h39 :: .ref h40 :: .ref h41 :: .int 0 :: .ref h42 :: .int 0 :: .ref h43 :: .int 0 :: .int 0 :: .ref h44 :: .ref h45 :: .ref h46 :: .int 0 :: .ref h47 :: .ref h48 :: .ref h49 :: .ref h50 :: .ref h51 :: .ref h52 :: .ref h53 :: .int 0 :: .ref h54 :: .int 0 :: .ref h55 :: .ref h56 :: .ref h57 :: .int 0 :: .ref h58 :: .ref h59 :: .ref h60 :: .ref h61 :: .int 0 :: .ref h62 :: .ref h63 :: .ref h64 :: .ref h65 :: .int 0 :: .int 0 :: .int 0 :: .int 0 :: .int 0 :: .int 0 :: .int 0 :: .int 0 :: .int 0 :: .ref h66 :: .int 0 :: .ref h67 :: .int 0 :: .int 0 :: .int 0 :: .int 0 :: .int 0 :: .ref h68 :: .int 0 :: .int 0 :: .ref h69 :: .int 0 :: .ref h70 :: .int 0 :: .ref h71 :: .ref h72 :: .int 0 :: .ref h73 :: .ref h74 :: .ref h75 :: .ref h76 :: .long 0 :: .int 0 :: .ref h77 :: .ref h78 :: .ref h79 :: .ref h80 :: .ref h81 :: .ref h82 :: .ref h83 :: .ref h84 :: .ref h85 :: .ref h86 :: .ref h87 :: .ref h88 :: .ref h89 :: .ref h90 :: .ref h91 :: .int 0 :: .ref h92 :: .ref h93 :: .ref h94 :: .int 0 :: [])))] U.heap ∧ va_K (dC, dI) vwCl [] U ∧ va_D (fun _ => True) [(h0, .inr (15, (.int 0 :: .int 0 :: .ref h1 :: .int 0 :: .int (-1) :: .ref h2 :: .ref h3 :: .ref h4 :: .ref h5 :: .ref h6 :: .ref h7 :: .ref h8 :: .ref h9 :: .ref h10 :: .ref h11 :: .ref h12 :: .ref h13 :: .ref h14 :: .ref h15 :: .ref h16 :: .ref h17 :: .ref h18 :: .ref h19 :: .ref h20 :: .ref h21 :: .ref h22 :: .ref h23 :: .ref h24 :: .ref h25 :: .ref h26 :: .ref h27 :: .int 0 :: .ref h28 :: .ref h29 :: .int 0 :: .int 0 :: .int 0 :: .int 0 :: .int 0 :: .int 0 :: .ref h30 :: .int 0 :: .ref h31 :: .ref h32 :: .ref h33 :: .ref h34 :: .ref h35 :: .ref h36 :: .ref h37 :: .ref h38 :: .int 0 :: .int 0 :: .int 0 :: .int 0 :: .ref h39 :: .ref h40 :: .ref h41 :: .int 0 :: .ref h42 :: .int 0 :: .ref h43 :: .int 0 :: .int 0 :: .ref h44 :: .ref h45 :: .ref h46 :: .int 0 :: .ref h47 :: .ref h48 :: .ref h49 :: .ref h50 :: .ref h51 :: .ref h52 :: .ref h53 :: .int 0 :: .ref h54 :: .int 0 :: .ref h55 :: .ref h56 :: .ref h57 :: .int 0 :: .ref h58 :: .ref h59 :: .ref h60 :: .ref h61 :: .int 0 :: .ref h62 :: .ref h63 :: .ref h64 :: .ref h65 :: .int 0 :: .int 0 :: .int 0 :: .int 0 :: .int 0 :: .int 0 :: .int 0 :: .int 0 :: .int 0 :: .ref h66 :: .int 0 :: .ref h67 :: .int 0 :: .int 0 :: .int 0 :: .int 0 :: .int 0 :: .ref h68 :: .int 0 :: .int 0 :: .ref h69 :: .int 0 :: .ref h70 :: .int 0 :: .ref h71 :: .ref h72 :: .int 0 :: .ref h73 :: .ref h74 :: .ref h75 :: .ref h76 :: .long 0 :: .int 0 :: .ref h77 :: .ref h78 :: .ref h79 :: .ref h80 :: .ref h81 :: .ref h82 :: .ref h83 :: .ref h84 :: .ref h85 :: .ref h86 :: .ref h87 :: .ref h88 :: .ref h89 :: .ref h90 :: .ref h91 :: .int 0 :: .ref h92 :: .ref h93 :: .ref h94 :: .int 0 :: [])))])) (va_Qi (fun (r : Int32) (u : Nat) => (u = 0 ∧ r = (-4) ∧ (p0 < 1) ∧ (p0 ≤ 0))) (fun (_ : Nat) (t : State) => (va_P (dC, dI) vwCl [] t.heap ∧ va_K (dC, dI) vwCl [] t ∧ va_D (va_A [(h0, .inr (15, (.int 0 :: .int 0 :: .ref h1 :: .int 0 :: .int (-1) :: .ref h2 :: .ref h3 :: .ref h4 :: .ref h5 :: .ref h6 :: .ref h7 :: .ref h8 :: .ref h9 :: .ref h10 :: .ref h11 :: .ref h12 :: .ref h13 :: .ref h14 :: .ref h15 :: .ref h16 :: .ref h17 :: .ref h18 :: .ref h19 :: .ref h20 :: .ref h21 :: .ref h22 :: .ref h23 :: .ref h24 :: .ref h25 :: .ref h26 :: .ref h27 :: .int 0 :: .ref h28 :: .ref h29 :: .int 0 :: .int 0 :: .int 0 :: .int 0 :: .int 0 :: .int 0 :: .ref h30 :: .int 0 :: .ref h31 :: .ref h32 :: .ref h33 :: .ref h34 :: .ref h35 :: .ref h36 :: .ref h37 :: .ref h38 :: .int 0 :: .int 0 :: .int 0 :: .int 0 :: .ref h39 :: .ref h40 :: .ref h41 :: .int 0 :: .ref h42 :: .int 0 :: .ref h43 :: .int 0 :: .int 0 :: .ref h44 :: .ref h45 :: .ref h46 :: .int 0 :: .ref h47 :: .ref h48 :: .ref h49 :: .ref h50 :: .ref h51 :: .ref h52 :: .ref h53 :: .int 0 :: .ref h54 :: .int 0 :: .ref h55 :: .ref h56 :: .ref h57 :: .int 0 :: .ref h58 :: .ref h59 :: .ref h60 :: .ref h61 :: .int 0 :: .ref h62 :: .ref h63 :: .ref h64 :: .ref h65 :: .int 0 :: .int 0 :: .int 0 :: .int 0 :: .int 0 :: .int 0 :: .int 0 :: .int 0 :: .int 0 :: .ref h66 :: .int 0 :: .ref h67 :: .int 0 :: .int 0 :: .int 0 :: .int 0 :: .int 0 :: .ref h68 :: .int 0 :: .int 0 :: .ref h69 :: .int 0 :: .ref h70 :: .int 0 :: .ref h71 :: .ref h72 :: .int 0 :: .ref h73 :: .ref h74 :: .ref h75 :: .ref h76 :: .long 0 :: .int 0 :: .ref h77 :: .ref h78 :: .ref h79 :: .ref h80 :: .ref h81 :: .ref h82 :: .ref h83 :: .ref h84 :: .ref h85 :: .ref h86 :: .ref h87 :: .ref h88 :: .ref h89 :: .ref h90 :: .ref h91 :: .int 0 :: .ref h92 :: .ref h93 :: .ref h94 :: .int 0 :: [])))] sz) [])) (va_A [(h0, .inr (15, (.int 0 :: .int 0 :: .ref h1 :: .int 0 :: .int (-1) :: .ref h2 :: .ref h3 :: .ref h4 :: .ref h5 :: .ref h6 :: .ref h7 :: .ref h8 :: .ref h9 :: .ref h10 :: .ref h11 :: .ref h12 :: .ref h13 :: .ref h14 :: .ref h15 :: .ref h16 :: .ref h17 :: .ref h18 :: .ref h19 :: .ref h20 :: .ref h21 :: .ref h22 :: .ref h23 :: .ref h24 :: .ref h25 :: .ref h26 :: .ref h27 :: .int 0 :: .ref h28 :: .ref h29 :: .int 0 :: .int 0 :: .int 0 :: .int 0 :: .int 0 :: .int 0 :: .ref h30 :: .int 0 :: .ref h31 :: .ref h32 :: .ref h33 :: .ref h34 :: .ref h35 :: .ref h36 :: .ref h37 :: .ref h38 :: .int 0 :: .int 0 :: .int 0 :: .int 0 :: .ref h39 :: .ref h40 :: .ref h41 :: .int 0 :: .ref h42 :: .int 0 :: .ref h43 :: .int 0 :: .int 0 :: .ref h44 :: .ref h45 :: .ref h46 :: .int 0 :: .ref h47 :: .ref h48 :: .ref h49 :: .ref h50 :: .ref h51 :: .ref h52 :: .ref h53 :: .int 0 :: .ref h54 :: .int 0 :: .ref h55 :: .ref h56 :: .ref h57 :: .int 0 :: .ref h58 :: .ref h59 :: .ref h60 :: .ref h61 :: .int 0 :: .ref h62 :: .ref h63 :: .ref h64 :: .ref h65 :: .int 0 :: .int 0 :: .int 0 :: .int 0 :: .int 0 :: .int 0 :: .int 0 :: .int 0 :: .int 0 :: .ref h66 :: .int 0 :: .ref h67 :: .int 0 :: .int 0 :: .int 0 :: .int 0 :: .int 0 :: .ref h68 :: .int 0 :: .int 0 :: .ref h69 :: .int 0 :: .ref h70 :: .int 0 :: .ref h71 :: .ref h72 :: .int 0 :: .ref h73 :: .ref h74 :: .ref h75 :: .ref h76 :: .long 0 :: .int 0 :: .ref h77 :: .ref h78 :: .ref h79 :: .ref h80 :: .ref h81 :: .ref h82 :: .ref h83 :: .ref h84 :: .ref h85 :: .ref h86 :: .ref h87 :: .ref h88 :: .ref h89 :: .ref h90 :: .ref h91 :: .int 0 :: .ref h92 :: .ref h93 :: .ref h94 :: .int 0 :: [])))] sz)) 0 0 (va_A [(h0, .inr (15, (.int 0 :: .int 0 :: .ref h1 :: .int 0 :: .int (-1) :: .ref h2 :: .ref h3 :: .ref h4 :: .ref h5 :: .ref h6 :: .ref h7 :: .ref h8 :: .ref h9 :: .ref h10 :: .ref h11 :: .ref h12 :: .ref h13 :: .ref h14 :: .ref h15 :: .ref h16 :: .ref h17 :: .ref h18 :: .ref h19 :: .ref h20 :: .ref h21 :: .ref h22 :: .ref h23 :: .ref h24 :: .ref h25 :: .ref h26 :: .ref h27 :: .int 0 :: .ref h28 :: .ref h29 :: .int 0 :: .int 0 :: .int 0 :: .int 0 :: .int 0 :: .int 0 :: .ref h30 :: .int 0 :: .ref h31 :: .ref h32 :: .ref h33 :: .ref h34 :: .ref h35 :: .ref h36 :: .ref h37 :: .ref h38 :: .int 0 :: .int 0 :: .int 0 :: .int 0 :: .ref h39 :: .ref h40 :: .ref h41 :: .int 0 :: .ref h42 :: .int 0 :: .ref h43 :: .int 0 :: .int 0 :: .ref h44 :: .ref h45 :: .ref h46 :: .int 0 :: .ref h47 :: .ref h48 :: .ref h49 :: .ref h50 :: .ref h51 :: .ref h52 :: .ref h53 :: .int 0 :: .ref h54 :: .int 0 :: .ref h55 :: .ref h56 :: .ref h57 :: .int 0 :: .ref h58 :: .ref h59 :: .ref h60 :: .ref h61 :: .int 0 :: .ref h62 :: .ref h63 :: .ref h64 :: .ref h65 :: .int 0 :: .int 0 :: .int 0 :: .int 0 :: .int 0 :: .int 0 :: .int 0 :: .int 0 :: .int 0 :: .ref h66 :: .int 0 :: .ref h67 :: .int 0 :: .int 0 :: .int 0 :: .int 0 :: .int 0 :: .ref h68 :: .int 0 :: .int 0 :: .ref h69 :: .int 0 :: .ref h70 :: .int 0 :: .ref h71 :: .ref h72 :: .int 0 :: .ref h73 :: .ref h74 :: .ref h75 :: .ref h76 :: .long 0 :: .int 0 :: .ref h77 :: .ref h78 :: .ref h79 :: .ref h80 :: .ref h81 :: .ref h82 :: .ref h83 :: .ref h84 :: .ref h85 :: .ref h86 :: .ref h87 :: .ref h88 :: .ref h89 :: .ref h90 :: .ref h91 :: .int 0 :: .ref h92 :: .ref h93 :: .ref h94 :: .int 0 :: [])))] sz) := by
  refine Met.ofW (cc := cX12_feed) (maxL := 6) (ret := (some (.int))) (by decide) rfl ?_
  intro p e s m args below meth c s₁ B hml hv
  obtain ⟨rfl, hsz, hP, hK, hD0⟩ := hv
  have hx := B.exec
  have hb := B.bytes
  have hr := B.returns
  have hts := atoms_spec (ws := WS yX12_feed cX12_feed 6 (some (.int))) B.pre
  have ht : ∀ w ∈ TW, w.before _ s = true := fun w h => hts w (List.mem_cons_of_mem _ h)
  have hown : s.vm.findClass "PatternWorkshopModel" = some m.cls := findClass_of_methodNamed B.named
  have hlocks := B.notSynchronized
  subst hsz
  have hD := hD0.self (sz := s.heap.size)
  generalize hAe : va_A [(h0, .inr (15, (.int 0 :: .int 0 :: .ref h1 :: .int 0 :: .int (-1) :: .ref h2 :: .ref h3 :: .ref h4 :: .ref h5 :: .ref h6 :: .ref h7 :: .ref h8 :: .ref h9 :: .ref h10 :: .ref h11 :: .ref h12 :: .ref h13 :: .ref h14 :: .ref h15 :: .ref h16 :: .ref h17 :: .ref h18 :: .ref h19 :: .ref h20 :: .ref h21 :: .ref h22 :: .ref h23 :: .ref h24 :: .ref h25 :: .ref h26 :: .ref h27 :: .int 0 :: .ref h28 :: .ref h29 :: .int 0 :: .int 0 :: .int 0 :: .int 0 :: .int 0 :: .int 0 :: .ref h30 :: .int 0 :: .ref h31 :: .ref h32 :: .ref h33 :: .ref h34 :: .ref h35 :: .ref h36 :: .ref h37 :: .ref h38 :: .int 0 :: .int 0 :: .int 0 :: .int 0 :: .ref h39 :: .ref h40 :: .ref h41 :: .int 0 :: .ref h42 :: .int 0 :: .ref h43 :: .int 0 :: .int 0 :: .ref h44 :: .ref h45 :: .ref h46 :: .int 0 :: .ref h47 :: .ref h48 :: .ref h49 :: .ref h50 :: .ref h51 :: .ref h52 :: .ref h53 :: .int 0 :: .ref h54 :: .int 0 :: .ref h55 :: .ref h56 :: .ref h57 :: .int 0 :: .ref h58 :: .ref h59 :: .ref h60 :: .ref h61 :: .int 0 :: .ref h62 :: .ref h63 :: .ref h64 :: .ref h65 :: .int 0 :: .int 0 :: .int 0 :: .int 0 :: .int 0 :: .int 0 :: .int 0 :: .int 0 :: .int 0 :: .ref h66 :: .int 0 :: .ref h67 :: .int 0 :: .int 0 :: .int 0 :: .int 0 :: .int 0 :: .ref h68 :: .int 0 :: .int 0 :: .ref h69 :: .int 0 :: .ref h70 :: .int 0 :: .ref h71 :: .ref h72 :: .int 0 :: .ref h73 :: .ref h74 :: .ref h75 :: .ref h76 :: .long 0 :: .int 0 :: .ref h77 :: .ref h78 :: .ref h79 :: .ref h80 :: .ref h81 :: .ref h82 :: .ref h83 :: .ref h84 :: .ref h85 :: .ref h86 :: .ref h87 :: .ref h88 :: .ref h89 :: .ref h90 :: .ref h91 :: .int 0 :: .ref h92 :: .ref h93 :: .ref h94 :: .int 0 :: [])))] s.heap.size = A at hD ⊢
  have hA : ∀ q : Nat, s.heap.size ≤ q → A q := fun q h => by rw [← hAe]; exact Or.inr h
  have hS : va_S A s.heap s.heap [] := va_S.rf
  have hP : va_P (dC, dI) vwCl [(h0, .inr (15, (.int 0 :: .int 0 :: .ref h1 :: .int 0 :: .int (-1) :: .ref h2 :: .ref h3 :: .ref h4 :: .ref h5 :: .ref h6 :: .ref h7 :: .ref h8 :: .ref h9 :: .ref h10 :: .ref h11 :: .ref h12 :: .ref h13 :: .ref h14 :: .ref h15 :: .ref h16 :: .ref h17 :: .ref h18 :: .ref h19 :: .ref h20 :: .ref h21 :: .ref h22 :: .ref h23 :: .ref h24 :: .ref h25 :: .ref h26 :: .ref h27 :: .int 0 :: .ref h28 :: .ref h29 :: .int 0 :: .int 0 :: .int 0 :: .int 0 :: .int 0 :: .int 0 :: .ref h30 :: .int 0 :: .ref h31 :: .ref h32 :: .ref h33 :: .ref h34 :: .ref h35 :: .ref h36 :: .ref h37 :: .ref h38 :: .int 0 :: .int 0 :: .int 0 :: .int 0 :: .ref h39 :: .ref h40 :: .ref h41 :: .int 0 :: .ref h42 :: .int 0 :: .ref h43 :: .int 0 :: .int 0 :: .ref h44 :: .ref h45 :: .ref h46 :: .int 0 :: .ref h47 :: .ref h48 :: .ref h49 :: .ref h50 :: .ref h51 :: .ref h52 :: .ref h53 :: .int 0 :: .ref h54 :: .int 0 :: .ref h55 :: .ref h56 :: .ref h57 :: .int 0 :: .ref h58 :: .ref h59 :: .ref h60 :: .ref h61 :: .int 0 :: .ref h62 :: .ref h63 :: .ref h64 :: .ref h65 :: .int 0 :: .int 0 :: .int 0 :: .int 0 :: .int 0 :: .int 0 :: .int 0 :: .int 0 :: .int 0 :: .ref h66 :: .int 0 :: .ref h67 :: .int 0 :: .int 0 :: .int 0 :: .int 0 :: .int 0 :: .ref h68 :: .int 0 :: .int 0 :: .ref h69 :: .int 0 :: .ref h70 :: .int 0 :: .ref h71 :: .ref h72 :: .int 0 :: .ref h73 :: .ref h74 :: .ref h75 :: .ref h76 :: .long 0 :: .int 0 :: .ref h77 :: .ref h78 :: .ref h79 :: .ref h80 :: .ref h81 :: .ref h82 :: .ref h83 :: .ref h84 :: .ref h85 :: .ref h86 :: .ref h87 :: .ref h88 :: .ref h89 :: .ref h90 :: .ref h91 :: .int 0 :: .ref h92 :: .ref h93 :: .ref h94 :: .int 0 :: [])))] s.heap := hP
  have hl := lv_entry ([.ref h0, .int p0, .long w0]) (n := 6) (Nat.le_of_ble_eq_true rfl)
  rw [lg_entry_eq]
  generalize (lg_sl ([.ref h0, .int p0, .long w0]) ++ List.replicate (6 - (lg_sl ([.ref h0, .int p0, .long w0])).length) Slot.unset).toArray = ls at hl ⊢
  have hl : lv_has ls 6 [(0, .ref h0), (1, .int p0), (2, .long w0)] := hl
  clear hD0
  refine lv_aload_n hx hb dX12_feed_0 rfl (lv_at hl 0 rfl) ?_
  refine lv_iconst (v := 0) hx hb dX12_feed_1 (by decide) ?_
  refine va_put (D := (dC, dI)) (ci := 15) (v := .int 0) (ty := .int) (C := RX12) (T := TX12) (N := 143) hx hb ht inX12 tyX12 tyX12_ok nmX12 hown hK hP hD hS 0 rfl rfl 0 (by decide) (ht _ tw_2140) (fun _ h9 => h9) rfl (by decide +kernel) rfl rfl (Nat.le_of_ble_eq_true rfl) dX12_feed_2 (fun H_1 locs_1 hP_1 hD_1 hS_1 => ?_)
  have hP_1 : va_P (dC, dI) vwCl [(h0, .inr (15, (.int 0 :: .int 0 :: .ref h1 :: .int 0 :: .int (-1) :: .ref h2 :: .ref h3 :: .ref h4 :: .ref h5 :: .ref h6 :: .ref h7 :: .ref h8 :: .ref h9 :: .ref h10 :: .ref h11 :: .ref h12 :: .ref h13 :: .ref h14 :: .ref h15 :: .ref h16 :: .ref h17 :: .ref h18 :: .ref h19 :: .ref h20 :: .ref h21 :: .ref h22 :: .ref h23 :: .ref h24 :: .ref h25 :: .ref h26 :: .ref h27 :: .int 0 :: .ref h28 :: .ref h29 :: .int 0 :: .int 0 :: .int 0 :: .int 0 :: .int 0 :: .int 0 :: .ref h30 :: .int 0 :: .ref h31 :: .ref h32 :: .ref h33 :: .ref h34 :: .ref h35 :: .ref h36 :: .ref h37 :: .ref h38 :: .int 0 :: .int 0 :: .int 0 :: .int 0 :: .ref h39 :: .ref h40 :: .ref h41 :: .int 0 :: .ref h42 :: .int 0 :: .ref h43 :: .int 0 :: .int 0 :: .ref h44 :: .ref h45 :: .ref h46 :: .int 0 :: .ref h47 :: .ref h48 :: .ref h49 :: .ref h50 :: .ref h51 :: .ref h52 :: .ref h53 :: .int 0 :: .ref h54 :: .int 0 :: .ref h55 :: .ref h56 :: .ref h57 :: .int 0 :: .ref h58 :: .ref h59 :: .ref h60 :: .ref h61 :: .int 0 :: .ref h62 :: .ref h63 :: .ref h64 :: .ref h65 :: .int 0 :: .int 0 :: .int 0 :: .int 0 :: .int 0 :: .int 0 :: .int 0 :: .int 0 :: .int 0 :: .ref h66 :: .int 0 :: .ref h67 :: .int 0 :: .int 0 :: .int 0 :: .int 0 :: .int 0 :: .ref h68 :: .int 0 :: .int 0 :: .ref h69 :: .int 0 :: .ref h70 :: .int 0 :: .ref h71 :: .ref h72 :: .int 0 :: .ref h73 :: .ref h74 :: .ref h75 :: .ref h76 :: .long 0 :: .int 0 :: .ref h77 :: .ref h78 :: .ref h79 :: .ref h80 :: .ref h81 :: .ref h82 :: .ref h83 :: .ref h84 :: .ref h85 :: .ref h86 :: .ref h87 :: .ref h88 :: .ref h89 :: .ref h90 :: .ref h91 :: .int 0 :: .ref h92 :: .ref h93 :: .ref h94 :: .int 0 :: [])))] H_1 := hP_1
  have hD_1 : va_D A [(h0, .inr (15, (.int 0 :: .int 0 :: .ref h1 :: .int 0 :: .int (-1) :: .ref h2 :: .ref h3 :: .ref h4 :: .ref h5 :: .ref h6 :: .ref h7 :: .ref h8 :: .ref h9 :: .ref h10 :: .ref h11 :: .ref h12 :: .ref h13 :: .ref h14 :: .ref h15 :: .ref h16 :: .ref h17 :: .ref h18 :: .ref h19 :: .ref h20 :: .ref h21 :: .ref h22 :: .ref h23 :: .ref h24 :: .ref h25 :: .ref h26 :: .ref h27 :: .int 0 :: .ref h28 :: .ref h29 :: .int 0 :: .int 0 :: .int 0 :: .int 0 :: .int 0 :: .int 0 :: .ref h30 :: .int 0 :: .ref h31 :: .ref h32 :: .ref h33 :: .ref h34 :: .ref h35 :: .ref h36 :: .ref h37 :: .ref h38 :: .int 0 :: .int 0 :: .int 0 :: .int 0 :: .ref h39 :: .ref h40 :: .ref h41 :: .int 0 :: .ref h42 :: .int 0 :: .ref h43 :: .int 0 :: .int 0 :: .ref h44 :: .ref h45 :: .ref h46 :: .int 0 :: .ref h47 :: .ref h48 :: .ref h49 :: .ref h50 :: .ref h51 :: .ref h52 :: .ref h53 :: .int 0 :: .ref h54 :: .int 0 :: .ref h55 :: .ref h56 :: .ref h57 :: .int 0 :: .ref h58 :: .ref h59 :: .ref h60 :: .ref h61 :: .int 0 :: .ref h62 :: .ref h63 :: .ref h64 :: .ref h65 :: .int 0 :: .int 0 :: .int 0 :: .int 0 :: .int 0 :: .int 0 :: .int 0 :: .int 0 :: .int 0 :: .ref h66 :: .int 0 :: .ref h67 :: .int 0 :: .int 0 :: .int 0 :: .int 0 :: .int 0 :: .ref h68 :: .int 0 :: .int 0 :: .ref h69 :: .int 0 :: .ref h70 :: .int 0 :: .ref h71 :: .ref h72 :: .int 0 :: .ref h73 :: .ref h74 :: .ref h75 :: .ref h76 :: .long 0 :: .int 0 :: .ref h77 :: .ref h78 :: .ref h79 :: .ref h80 :: .ref h81 :: .ref h82 :: .ref h83 :: .ref h84 :: .ref h85 :: .ref h86 :: .ref h87 :: .ref h88 :: .ref h89 :: .ref h90 :: .ref h91 :: .int 0 :: .ref h92 :: .ref h93 :: .ref h94 :: .int 0 :: [])))] := hD_1
  clear hP hD hS
  refine lv_iload_n hx hb dX12_feed_5 rfl (lv_at hl 1 rfl) ?_
  refine lv_iconst (v := 1) hx hb dX12_feed_6 (by decide) ?_
  refine lv_bipush (v := 8) hx hb dX12_feed_7 (by decide) ?_
  have hPc_2 := hP_1.sub (ws' := []) [] rfl
  have hDc_2 := hD_1.sub (ws' := []) [] (by decide) rfl
  have hKc_2 := hK.sub (tys' := []) [] rfl
  have hFc_2 := va_free (wc := []) hD_1 hS_1 hA [] rfl
  refine va_calli (va_runS (As := [.int p0, .int 1, .int 8]) (rest := []) ⟨hx, hb, hml, hown, ht⟩ (mt_X12_in_v5 l dC dI p0 H_1.size) (cwS 3 ht (goodS tw_2574 tw_2575 tw_249 gw_X12_in) rfl rfl rfl (by decide +kernel) ⟨Nat.le_of_ble_eq_true rfl, Nat.le_of_ble_eq_true rfl⟩) ⟨fun a U g mk q => by obtain ⟨q0, q1, qP, qK, qD⟩ := q; exact ⟨q0, q1, qP, va_K.moved (u := U) (U := U.calling g mk a) (Vm.Alike.refl U.vm) qK, qD⟩, fun U hU hW => ⟨rfl, by rw [hU], by rw [hU]; exact hPc_2, va_K.moved hW.alike hKc_2, hDc_2.weaken (fun _ _ _ _ => trivial)⟩⟩ rfl rfl hl.1 rfl (lv_room (Nat.le_of_ble_eq_true rfl)) dX12_feed_9 ⟨Nat.le_of_ble_eq_true rfl, Nat.le_of_ble_eq_true rfl⟩) hS_1 (fun q _ h => hFc_2 q h) hFc_2 (fun r_2 u_2 t_2 H_2 locs_2 ht_2 hvm_2 hw_2 hB_2 hz_2 hk_2 hS_2 => ?_)
  rcases hw_2 with ⟨rfl, rfl, cc_2_0⟩ | ⟨rfl, rfl, cc_2_0, cc_2_1⟩ | ⟨rfl, rfl, cc_2_0, cc_2_1⟩
  · obtain ⟨hP1_2, hK1_2, hD1_2⟩ := hB_2
    rw [ht_2] at hP1_2
    have hK1_2 := va_K.moved hvm_2.symm hK1_2
    obtain ⟨hP_2, hD_2⟩ := va_join (wr := [(h0, .inr (15, (.int 0 :: .int 0 :: .ref h1 :: .int 0 :: .int (-1) :: .ref h2 :: .ref h3 :: .ref h4 :: .ref h5 :: .ref h6 :: .ref h7 :: .ref h8 :: .ref h9 :: .ref h10 :: .ref h11 :: .ref h12 :: .ref h13 :: .ref h14 :: .ref h15 :: .ref h16 :: .ref h17 :: .ref h18 :: .ref h19 :: .ref h20 :: .ref h21 :: .ref h22 :: .ref h23 :: .ref h24 :: .ref h25 :: .ref h26 :: .ref h27 :: .int 0 :: .ref h28 :: .ref h29 :: .int 0 :: .int 0 :: .int 0 :: .int 0 :: .int 0 :: .int 0 :: .ref h30 :: .int 0 :: .ref h31 :: .ref h32 :: .ref h33 :: .ref h34 :: .ref h35 :: .ref h36 :: .ref h37 :: .ref h38 :: .int 0 :: .int 0 :: .int 0 :: .int 0 :: .ref h39 :: .ref h40 :: .ref h41 :: .int 0 :: .ref h42 :: .int 0 :: .ref h43 :: .int 0 :: .int 0 :: .ref h44 :: .ref h45 :: .ref h46 :: .int 0 :: .ref h47 :: .ref h48 :: .ref h49 :: .ref h50 :: .ref h51 :: .ref h52 :: .ref h53 :: .int 0 :: .ref h54 :: .int 0 :: .ref h55 :: .ref h56 :: .ref h57 :: .int 0 :: .ref h58 :: .ref h59 :: .ref h60 :: .ref h61 :: .int 0 :: .ref h62 :: .ref h63 :: .ref h64 :: .ref h65 :: .int 0 :: .int 0 :: .int 0 :: .int 0 :: .int 0 :: .int 0 :: .int 0 :: .int 0 :: .int 0 :: .ref h66 :: .int 0 :: .ref h67 :: .int 0 :: .int 0 :: .int 0 :: .int 0 :: .int 0 :: .ref h68 :: .int 0 :: .int 0 :: .ref h69 :: .int 0 :: .ref h70 :: .int 0 :: .ref h71 :: .ref h72 :: .int 0 :: .ref h73 :: .ref h74 :: .ref h75 :: .ref h76 :: .long 0 :: .int 0 :: .ref h77 :: .ref h78 :: .ref h79 :: .ref h80 :: .ref h81 :: .ref h82 :: .ref h83 :: .ref h84 :: .ref h85 :: .ref h86 :: .ref h87 :: .ref h88 :: .ref h89 :: .ref h90 :: .ref h91 :: .int 0 :: .ref h92 :: .ref h93 :: .ref h94 :: .int 0 :: [])))]) (w1 := []) hP_1 hD_1 [] [0] rfl rfl (by decide) (by decide) hk_2 hFc_2 hP1_2 hD1_2
    have hK_2 := (hK.sub (tys' := []) [] rfl).app hK1_2
    have hK_2 : va_K (dC, dI) vwCl [] s := hK_2
    have hP_2 : va_P (dC, dI) vwCl [(h0, .inr (15, (.int 0 :: .int 0 :: .ref h1 :: .int 0 :: .int (-1) :: .ref h2 :: .ref h3 :: .ref h4 :: .ref h5 :: .ref h6 :: .ref h7 :: .ref h8 :: .ref h9 :: .ref h10 :: .ref h11 :: .ref h12 :: .ref h13 :: .ref h14 :: .ref h15 :: .ref h16 :: .ref h17 :: .ref h18 :: .ref h19 :: .ref h20 :: .ref h21 :: .ref h22 :: .ref h23 :: .ref h24 :: .ref h25 :: .ref h26 :: .ref h27 :: .int 0 :: .ref h28 :: .ref h29 :: .int 0 :: .int 0 :: .int 0 :: .int 0 :: .int 0 :: .int 0 :: .ref h30 :: .int 0 :: .ref h31 :: .ref h32 :: .ref h33 :: .ref h34 :: .ref h35 :: .ref h36 :: .ref h37 :: .ref h38 :: .int 0 :: .int 0 :: .int 0 :: .int 0 :: .ref h39 :: .ref h40 :: .ref h41 :: .int 0 :: .ref h42 :: .int 0 :: .ref h43 :: .int 0 :: .int 0 :: .ref h44 :: .ref h45 :: .ref h46 :: .int 0 :: .ref h47 :: .ref h48 :: .ref h49 :: .ref h50 :: .ref h51 :: .ref h52 :: .ref h53 :: .int 0 :: .ref h54 :: .int 0 :: .ref h55 :: .ref h56 :: .ref h57 :: .int 0 :: .ref h58 :: .ref h59 :: .ref h60 :: .ref h61 :: .int 0 :: .ref h62 :: .ref h63 :: .ref h64 :: .ref h65 :: .int 0 :: .int 0 :: .int 0 :: .int 0 :: .int 0 :: .int 0 :: .int 0 :: .int 0 :: .int 0 :: .ref h66 :: .int 0 :: .ref h67 :: .int 0 :: .int 0 :: .int 0 :: .int 0 :: .int 0 :: .ref h68 :: .int 0 :: .int 0 :: .ref h69 :: .int 0 :: .ref h70 :: .int 0 :: .ref h71 :: .ref h72 :: .int 0 :: .ref h73 :: .ref h74 :: .ref h75 :: .ref h76 :: .long 0 :: .int 0 :: .ref h77 :: .ref h78 :: .ref h79 :: .ref h80 :: .ref h81 :: .ref h82 :: .ref h83 :: .ref h84 :: .ref h85 :: .ref h86 :: .ref h87 :: .ref h88 :: .ref h89 :: .ref h90 :: .ref h91 :: .int 0 :: .ref h92 :: .ref h93 :: .ref h94 :: .int 0 :: [])))] H_2 := hP_2
    have hD_2 : va_D A [(h0, .inr (15, (.int 0 :: .int 0 :: .ref h1 :: .int 0 :: .int (-1) :: .ref h2 :: .ref h3 :: .ref h4 :: .ref h5 :: .ref h6 :: .ref h7 :: .ref h8 :: .ref h9 :: .ref h10 :: .ref h11 :: .ref h12 :: .ref h13 :: .ref h14 :: .ref h15 :: .ref h16 :: .ref h17 :: .ref h18 :: .ref h19 :: .ref h20 :: .ref h21 :: .ref h22 :: .ref h23 :: .ref h24 :: .ref h25 :: .ref h26 :: .ref h27 :: .int 0 :: .ref h28 :: .ref h29 :: .int 0 :: .int 0 :: .int 0 :: .int 0 :: .int 0 :: .int 0 :: .ref h30 :: .int 0 :: .ref h31 :: .ref h32 :: .ref h33 :: .ref h34 :: .ref h35 :: .ref h36 :: .ref h37 :: .ref h38 :: .int 0 :: .int 0 :: .int 0 :: .int 0 :: .ref h39 :: .ref h40 :: .ref h41 :: .int 0 :: .ref h42 :: .int 0 :: .ref h43 :: .int 0 :: .int 0 :: .ref h44 :: .ref h45 :: .ref h46 :: .int 0 :: .ref h47 :: .ref h48 :: .ref h49 :: .ref h50 :: .ref h51 :: .ref h52 :: .ref h53 :: .int 0 :: .ref h54 :: .int 0 :: .ref h55 :: .ref h56 :: .ref h57 :: .int 0 :: .ref h58 :: .ref h59 :: .ref h60 :: .ref h61 :: .int 0 :: .ref h62 :: .ref h63 :: .ref h64 :: .ref h65 :: .int 0 :: .int 0 :: .int 0 :: .int 0 :: .int 0 :: .int 0 :: .int 0 :: .int 0 :: .int 0 :: .ref h66 :: .int 0 :: .ref h67 :: .int 0 :: .int 0 :: .int 0 :: .int 0 :: .int 0 :: .ref h68 :: .int 0 :: .int 0 :: .ref h69 :: .int 0 :: .ref h70 :: .int 0 :: .ref h71 :: .ref h72 :: .int 0 :: .ref h73 :: .ref h74 :: .ref h75 :: .ref h76 :: .long 0 :: .int 0 :: .ref h77 :: .ref h78 :: .ref h79 :: .ref h80 :: .ref h81 :: .ref h82 :: .ref h83 :: .ref h84 :: .ref h85 :: .ref h86 :: .ref h87 :: .ref h88 :: .ref h89 :: .ref h90 :: .ref h91 :: .int 0 :: .ref h92 :: .ref h93 :: .ref h94 :: .int 0 :: [])))] := hD_2
    clear hP_1 hD_1 hS_1 hK hPc_2 hDc_2 hKc_2 hFc_2 hP1_2 hK1_2 hD1_2 hk_2 hz_2
    refine lv_istore (lv' := [(4, .int 0), (0, .ref h0), (1, .int p0), (2, .long w0)]) hx hb dX12_feed_12 hl (by decide) rfl (fun ls_3 hl_3 => ?_)
    clear hl
    refine lv_iconst (v := 0) hx hb dX12_feed_14 (by decide) ?_
    refine lv_istore (lv' := [(5, .int 0), (4, .int 0), (0, .ref h0), (1, .int p0), (2, .long w0)]) hx hb dX12_feed_15 hl_3 (by decide) rfl (fun ls_4 hl_4 => ?_)
    clear hl_3
    refine lv_iload hx hb dX12_feed_17 (lv_at hl_4 0 rfl) ?_
    refine lv_iload_n hx hb dX12_feed_19 rfl (lv_at hl_4 3 rfl) ?_
    refine lv_icmp_ge (tgt := 55) hx hb dX12_feed_20 (by decide) (fun c_5 => ?_) (fun c_5 => ?_)
    · refine lv_iload hx hb dX12_feed_55 (lv_at hl_4 1 rfl) ?_
      refine lv_if_ne (tgt := 63) hx hb dX12_feed_57 (by decide) (fun c_ => absurd (by decide) c_) (fun _ => ?_)
      refine lv_bipush (v := (-4)) hx hb dX12_feed_60 (by decide) ?_
      have hP9 := hP_2.sub (ws' := []) [] rfl
      have hD9 := hD_2.sub (ws' := []) [] (by decide) rfl
      have hK9 := hK_2.sub (tys' := []) [] rfl
      refine W.widen (k := 0) (n := 0) (by decide) (by decide) ?_
      exact W.iret (v := (-4)) hx hb hr (fun t9 ht9 hW9 => ⟨⟨(-4), 0, rfl, ⟨rfl, rfl, cc_2_0, c_5⟩, ⟨by rw [ht9]; exact hP9, va_K.moved hW9.alike hK9, hD9⟩⟩, hS_2.F ht9⟩) hS_2.2.2 dX12_feed_62
    · exact (by simp [Int32.lt_iff_toInt_lt, Int32.le_iff_toInt_le] at c_5 a_0; omega : False).elim
  · exact absurd a_0 cc_2_0
  · exact absurd a_0 cc_2_0
set_option maxHeartbeats 4000000 in
set_option maxRecDepth 100000 in
theorem mt_X11_feed_v2 (l : Launch) (dC : Nat → ClassId) (dI : Nat → Nat → Nat) (h0 h1 h2 h3 h4 h5 h6 h7 h8 h9 h10 h11 h12 : Nat) (p0 : Int32) (w0 : Int64) (a_0 : 8 < p0) (sz : Nat) : Met l yX11_feed (WS yX11_feed cX11_feed 5 (some (.int))) ({ frames := 0, cells := 0, slots := 0, locals := 0 }) (va_Pc [.ref h0, .int p0, .long w0] (fun U => U.heap.size = sz ∧ va_P (dC, dI) vwCl [(h0, .inr (14, [.ref h1, .ref h2, .ref h3, .ref h4, .int 0, .ref h5, .ref h6, .ref h7, .ref h8, .ref h9, .ref h10, .ref h11, .ref h12, .int (-1), .int 0, .int 0, .int (-1), .int (-1)]))] U.heap ∧ va_K (dC, dI) vwCl [] U ∧ va_D (fun _ => True) [(h0, .inr (14, [.ref h1, .ref h2, .ref h3, .ref h4, .int 0, .ref h5, .ref h6, .ref h7, .ref h8, .ref h9, .ref h10, .ref h11, .ref h12, .int (-1), .int 0, .int 0, .int (-1), .int (-1)]))])) (va_Qi (fun (r : Int32) (u : Nat) => (u = 0 ∧ r = (-4) ∧ (¬ p0 < 1) ∧ (¬ p0 ≤ 8))) (fun (_ : Nat) (t : State) => (va_P (dC, dI) vwCl [] t.heap ∧ va_K (dC, dI) vwCl [] t ∧ va_D (va_A [(h0, .inr (14, [.ref h1, .ref h2, .ref h3, .ref h4, .int 0, .ref h5, .ref h6, .ref h7, .ref h8, .ref h9, .ref h10, .ref h11, .ref h12, .int (-1), .int 0, .int 0, .int (-1), .int (-1)]))] sz) [])) (va_A [(h0, .inr (14, [.ref h1, .ref h2, .ref h3, .ref h4, .int 0, .ref h5, .ref h6, .ref h7, .ref h8, .ref h9, .ref h10, .ref h11, .ref h12, .int (-1), .int 0, .int 0, .int (-1), .int (-1)]))] sz)) 0 0 (va_A [(h0, .inr (14, [.ref h1, .ref h2, .ref h3, .ref h4, .int 0, .ref h5, .ref h6, .ref h7, .ref h8, .ref h9, .ref h10, .ref h11, .ref h12, .int (-1), .int 0, .int 0, .int (-1), .int (-1)]))] sz) := by
  refine Met.ofW (cc := cX11_feed) (maxL := 5) (ret := (some (.int))) (by decide) rfl ?_
  intro p e s m args below meth c s₁ B hml hv
  obtain ⟨rfl, hsz, hP, hK, hD0⟩ := hv
  have hx := B.exec
  have hb := B.bytes
  have hr := B.returns
  have hts := atoms_spec (ws := WS yX11_feed cX11_feed 5 (some (.int))) B.pre
  have ht : ∀ w ∈ TW, w.before _ s = true := fun w h => hts w (List.mem_cons_of_mem _ h)
  have hown : s.vm.findClass "PatternWorkshop" = some m.cls := findClass_of_methodNamed B.named
  have hlocks := B.notSynchronized
  subst hsz
  have hD := hD0.self (sz := s.heap.size)
  generalize hAe : va_A [(h0, .inr (14, [.ref h1, .ref h2, .ref h3, .ref h4, .int 0, .ref h5, .ref h6, .ref h7, .ref h8, .ref h9, .ref h10, .ref h11, .ref h12, .int (-1), .int 0, .int 0, .int (-1), .int (-1)]))] s.heap.size = A at hD ⊢
  have hA : ∀ q : Nat, s.heap.size ≤ q → A q := fun q h => by rw [← hAe]; exact Or.inr h
  have hS : va_S A s.heap s.heap [] := va_S.rf
  have hP : va_P (dC, dI) vwCl [(h0, .inr (14, [.ref h1, .ref h2, .ref h3, .ref h4, .int 0, .ref h5, .ref h6, .ref h7, .ref h8, .ref h9, .ref h10, .ref h11, .ref h12, .int (-1), .int 0, .int 0, .int (-1), .int (-1)]))] s.heap := hP
  have hl := lv_entry ([.ref h0, .int p0, .long w0]) (n := 5) (Nat.le_of_ble_eq_true rfl)
  rw [lg_entry_eq]
  generalize (lg_sl ([.ref h0, .int p0, .long w0]) ++ List.replicate (5 - (lg_sl ([.ref h0, .int p0, .long w0])).length) Slot.unset).toArray = ls at hl ⊢
  have hl : lv_has ls 5 [(0, .ref h0), (1, .int p0), (2, .long w0)] := hl
  clear hD0
  refine lv_iload_n hx hb dX11_feed_0 rfl (lv_at hl 1 rfl) ?_
  refine lv_iconst (v := 1) hx hb dX11_feed_1 (by decide) ?_
  refine lv_icmp_lt (tgt := 11) hx hb dX11_feed_2 (by decide) (fun c_1 => ?_) (fun c_1 => ?_)
  · exact (by simp [Int32.lt_iff_toInt_lt, Int32.le_iff_toInt_le] at a_0 c_1; omega : False).elim
  · refine lv_iload_n hx hb dX11_feed_5 rfl (lv_at hl 1 rfl) ?_
    refine lv_bipush (v := 8) hx hb dX11_feed_6 (by decide) ?_
    refine lv_icmp_le (tgt := 14) hx hb dX11_feed_8 (by decide) (fun c_2 => ?_) (fun c_2 => ?_)
    · exact (by simp [Int32.lt_iff_toInt_lt, Int32.le_iff_toInt_le] at a_0 c_2; omega : False).elim
    · refine lv_bipush (v := (-4)) hx hb dX11_feed_11 (by decide) ?_
      have hP9 := hP.sub (ws' := []) [] rfl
      have hD9 := hD.sub (ws' := []) [] (by decide) rfl
      have hK9 := hK.sub (tys' := []) [] rfl
      refine W.widen (k := 0) (n := 0) (by decide) (by decide) ?_
      exact W.iret (v := (-4)) hx hb hr (fun t9 ht9 hW9 => ⟨⟨(-4), 0, rfl, ⟨rfl, rfl, c_1, c_2⟩, ⟨by rw [ht9]; exact hP9, va_K.moved hW9.alike hK9, hD9⟩⟩, hS.F ht9⟩) hS.2.2 dX11_feed_13
set_option maxHeartbeats 4000000 in
set_option maxRecDepth 100000 in
theorem mt_X12_feed_v2 (l : Launch) (dC : Nat → ClassId) (dI : Nat → Nat → Nat) (h0 h1 h2 h3 h4 h5 h6 h7 h8 h9 h10 h11 h12 h13 h14 h15 h16 h17 h18 h19 h20 h21 h22 h23 h24 h25 h26 h27 h28 h29 h30 h31 h32 h33 h34 h35 h36 h37 h38 h39 h40 h41 h42 h43 h44 h45 h46 h47 h48 h49 h50 h51 h52 h53 h54 h55 h56 h57 h58 h59 h60 h61 h62 h63 h64 h65 h66 h67 h68 h69 h70 h71 h72 h73 h74 h75 h76 h77 h78 h79 h80 h81 h82 h83 h84 h85 h86 h87 h88 h89 h90 h91 h92 h93 h94 : Nat) (p0 : Int32) (w0 : Int64) (a_0 : 8 < p0) (a_1 : ¬ p0 < 1) (a_2 : ¬ p0 ≤ 8) (sz : Nat) : Met l yX12_feed (WS yX12_feed cX12_feed 6 (some (.int))) ({ frames := 1, cells := 0, slots := 0, locals := 22 }) (va_Pc [.ref h0, .int p0, .long w0] (fun U => U.heap.size = sz ∧ va_P (dC, dI) vwCl [(h0, .inr (15, (.int 0 :: .int 0 :: .ref h1 :: .int 0 :: .int (-1) :: .ref h2 :: .ref h3 :: .ref h4 :: .ref h5 :: .ref h6 :: .ref h7 :: .ref h8 :: .ref h9 :: .ref h10 :: .ref h11 :: .ref h12 :: .ref h13 :: .ref h14 :: .ref h15 :: .ref h16 :: .ref h17 :: .ref h18 :: .ref h19 :: .ref h20 :: .ref h21 :: .ref h22 :: .ref h23 :: .ref h24 :: .ref h25 :: .ref h26 :: .ref h27 :: .int 0 :: .ref h28 :: .ref h29 :: .int 0 :: .int 0 :: .int 0 :: .int 0 :: .int 0 :: .int 0 :: .ref h30 :: .int 0 :: .ref h31 :: .ref h32 :: .ref h33 :: .ref h34 :: .ref h35 :: .ref h36 :: .ref h37 :: .ref h38 :: .int 0 :: .int 0 :: .int 0 :: .int 0 :: .ref h39 :: .ref h40 :: .ref h41 :: .int 0 :: .ref h42 :: .int 0 :: .ref h43 :: .int 0 :: .int 0 :: .ref h44 :: .ref h45 :: .ref h46 :: .int 0 :: .ref h47 :: .ref h48 :: .ref h49 :: .ref h50 :: .ref h51 :: .ref h52 :: .ref h53 :: .int 0 :: .ref h54 :: .int 0 :: .ref h55 :: .ref h56 :: .ref h57 :: .int 0 :: .ref h58 :: .ref h59 :: .ref h60 :: .ref h61 :: .int 0 :: .ref h62 :: .ref h63 :: .ref h64 :: .ref h65 :: .int 0 :: .int 0 :: .int 0 :: .int 0 :: .int 0 :: .int 0 :: .int 0 :: .int 0 :: .int 0 :: .ref h66 :: .int 0 :: .ref h67 :: .int 0 :: .int 0 :: .int 0 :: .int 0 :: .int 0 :: .ref h68 :: .int 0 :: .int 0 :: .ref h69 :: .int 0 :: .ref h70 :: .int 0 :: .ref h71 :: .ref h72 :: .int 0 :: .ref h73 :: .ref h74 :: .ref h75 :: .ref h76 :: .long 0 :: .int 0 :: .ref h77 :: .ref h78 :: .ref h79 :: .ref h80 :: .ref h81 :: .ref h82 :: .ref h83 :: .ref h84 :: .ref h85 :: .ref h86 :: .ref h87 :: .ref h88 :: .ref h89 :: .ref h90 :: .ref h91 :: .int 0 :: .ref h92 :: .ref h93 :: .ref h94 :: .int 0 :: [])))] U.heap ∧ va_K (dC, dI) vwCl [] U ∧ va_D (fun _ => True) [(h0, .inr (15, (.int 0 :: .int 0 :: .ref h1 :: .int 0 :: .int (-1) :: .ref h2 :: .ref h3 :: .ref h4 :: .ref h5 :: .ref h6 :: .ref h7 :: .ref h8 :: .ref h9 :: .ref h10 :: .ref h11 :: .ref h12 :: .ref h13 :: .ref h14 :: .ref h15 :: .ref h16 :: .ref h17 :: .ref h18 :: .ref h19 :: .ref h20 :: .ref h21 :: .ref h22 :: .ref h23 :: .ref h24 :: .ref h25 :: .ref h26 :: .ref h27 :: .int 0 :: .ref h28 :: .ref h29 :: .int 0 :: .int 0 :: .int 0 :: .int 0 :: .int 0 :: .int 0 :: .ref h30 :: .int 0 :: .ref h31 :: .ref h32 :: .ref h33 :: .ref h34 :: .ref h35 :: .ref h36 :: .ref h37 :: .ref h38 :: .int 0 :: .int 0 :: .int 0 :: .int 0 :: .ref h39 :: .ref h40 :: .ref h41 :: .int 0 :: .ref h42 :: .int 0 :: .ref h43 :: .int 0 :: .int 0 :: .ref h44 :: .ref h45 :: .ref h46 :: .int 0 :: .ref h47 :: .ref h48 :: .ref h49 :: .ref h50 :: .ref h51 :: .ref h52 :: .ref h53 :: .int 0 :: .ref h54 :: .int 0 :: .ref h55 :: .ref h56 :: .ref h57 :: .int 0 :: .ref h58 :: .ref h59 :: .ref h60 :: .ref h61 :: .int 0 :: .ref h62 :: .ref h63 :: .ref h64 :: .ref h65 :: .int 0 :: .int 0 :: .int 0 :: .int 0 :: .int 0 :: .int 0 :: .int 0 :: .int 0 :: .int 0 :: .ref h66 :: .int 0 :: .ref h67 :: .int 0 :: .int 0 :: .int 0 :: .int 0 :: .int 0 :: .ref h68 :: .int 0 :: .int 0 :: .ref h69 :: .int 0 :: .ref h70 :: .int 0 :: .ref h71 :: .ref h72 :: .int 0 :: .ref h73 :: .ref h74 :: .ref h75 :: .ref h76 :: .long 0 :: .int 0 :: .ref h77 :: .ref h78 :: .ref h79 :: .ref h80 :: .ref h81 :: .ref h82 :: .ref h83 :: .ref h84 :: .ref h85 :: .ref h86 :: .ref h87 :: .ref h88 :: .ref h89 :: .ref h90 :: .ref h91 :: .int 0 :: .ref h92 :: .ref h93 :: .ref h94 :: .int 0 :: [])))])) (va_Qi (fun (r : Int32) (u : Nat) => (u = 0 ∧ r = (-4) ∧ (¬ p0 < 1) ∧ (8 < p0) ∧ (¬ p0 ≤ 0))) (fun (_ : Nat) (t : State) => (va_P (dC, dI) vwCl [] t.heap ∧ va_K (dC, dI) vwCl [] t ∧ va_D (va_A [(h0, .inr (15, (.int 0 :: .int 0 :: .ref h1 :: .int 0 :: .int (-1) :: .ref h2 :: .ref h3 :: .ref h4 :: .ref h5 :: .ref h6 :: .ref h7 :: .ref h8 :: .ref h9 :: .ref h10 :: .ref h11 :: .ref h12 :: .ref h13 :: .ref h14 :: .ref h15 :: .ref h16 :: .ref h17 :: .ref h18 :: .ref h19 :: .ref h20 :: .ref h21 :: .ref h22 :: .ref h23 :: .ref h24 :: .ref h25 :: .ref h26 :: .ref h27 :: .int 0 :: .ref h28 :: .ref h29 :: .int 0 :: .int 0 :: .int 0 :: .int 0 :: .int 0 :: .int 0 :: .ref h30 :: .int 0 :: .ref h31 :: .ref h32 :: .ref h33 :: .ref h34 :: .ref h35 :: .ref h36 :: .ref h37 :: .ref h38 :: .int 0 :: .int 0 :: .int 0 :: .int 0 :: .ref h39 :: .ref h40 :: .ref h41 :: .int 0 :: .ref h42 :: .int 0 :: .ref h43 :: .int 0 :: .int 0 :: .ref h44 :: .ref h45 :: .ref h46 :: .int 0 :: .ref h47 :: .ref h48 :: .ref h49 :: .ref h50 :: .ref h51 :: .ref h52 :: .ref h53 :: .int 0 :: .ref h54 :: .int 0 :: .ref h55 :: .ref h56 :: .ref h57 :: .int 0 :: .ref h58 :: .ref h59 :: .ref h60 :: .ref h61 :: .int 0 :: .ref h62 :: .ref h63 :: .ref h64 :: .ref h65 :: .int 0 :: .int 0 :: .int 0 :: .int 0 :: .int 0 :: .int 0 :: .int 0 :: .int 0 :: .int 0 :: .ref h66 :: .int 0 :: .ref h67 :: .int 0 :: .int 0 :: .int 0 :: .int 0 :: .int 0 :: .ref h68 :: .int 0 :: .int 0 :: .ref h69 :: .int 0 :: .ref h70 :: .int 0 :: .ref h71 :: .ref h72 :: .int 0 :: .ref h73 :: .ref h74 :: .ref h75 :: .ref h76 :: .long 0 :: .int 0 :: .ref h77 :: .ref h78 :: .ref h79 :: .ref h80 :: .ref h81 :: .ref h82 :: .ref h83 :: .ref h84 :: .ref h85 :: .ref h86 :: .ref h87 :: .ref h88 :: .ref h89 :: .ref h90 :: .ref h91 :: .int 0 :: .ref h92 :: .ref h93 :: .ref h94 :: .int 0 :: [])))] sz) [])) (va_A [(h0, .inr (15, (.int 0 :: .int 0 :: .ref h1 :: .int 0 :: .int (-1) :: .ref h2 :: .ref h3 :: .ref h4 :: .ref h5 :: .ref h6 :: .ref h7 :: .ref h8 :: .ref h9 :: .ref h10 :: .ref h11 :: .ref h12 :: .ref h13 :: .ref h14 :: .ref h15 :: .ref h16 :: .ref h17 :: .ref h18 :: .ref h19 :: .ref h20 :: .ref h21 :: .ref h22 :: .ref h23 :: .ref h24 :: .ref h25 :: .ref h26 :: .ref h27 :: .int 0 :: .ref h28 :: .ref h29 :: .int 0 :: .int 0 :: .int 0 :: .int 0 :: .int 0 :: .int 0 :: .ref h30 :: .int 0 :: .ref h31 :: .ref h32 :: .ref h33 :: .ref h34 :: .ref h35 :: .ref h36 :: .ref h37 :: .ref h38 :: .int 0 :: .int 0 :: .int 0 :: .int 0 :: .ref h39 :: .ref h40 :: .ref h41 :: .int 0 :: .ref h42 :: .int 0 :: .ref h43 :: .int 0 :: .int 0 :: .ref h44 :: .ref h45 :: .ref h46 :: .int 0 :: .ref h47 :: .ref h48 :: .ref h49 :: .ref h50 :: .ref h51 :: .ref h52 :: .ref h53 :: .int 0 :: .ref h54 :: .int 0 :: .ref h55 :: .ref h56 :: .ref h57 :: .int 0 :: .ref h58 :: .ref h59 :: .ref h60 :: .ref h61 :: .int 0 :: .ref h62 :: .ref h63 :: .ref h64 :: .ref h65 :: .int 0 :: .int 0 :: .int 0 :: .int 0 :: .int 0 :: .int 0 :: .int 0 :: .int 0 :: .int 0 :: .ref h66 :: .int 0 :: .ref h67 :: .int 0 :: .int 0 :: .int 0 :: .int 0 :: .int 0 :: .ref h68 :: .int 0 :: .int 0 :: .ref h69 :: .int 0 :: .ref h70 :: .int 0 :: .ref h71 :: .ref h72 :: .int 0 :: .ref h73 :: .ref h74 :: .ref h75 :: .ref h76 :: .long 0 :: .int 0 :: .ref h77 :: .ref h78 :: .ref h79 :: .ref h80 :: .ref h81 :: .ref h82 :: .ref h83 :: .ref h84 :: .ref h85 :: .ref h86 :: .ref h87 :: .ref h88 :: .ref h89 :: .ref h90 :: .ref h91 :: .int 0 :: .ref h92 :: .ref h93 :: .ref h94 :: .int 0 :: [])))] sz)) 0 0 (va_A [(h0, .inr (15, (.int 0 :: .int 0 :: .ref h1 :: .int 0 :: .int (-1) :: .ref h2 :: .ref h3 :: .ref h4 :: .ref h5 :: .ref h6 :: .ref h7 :: .ref h8 :: .ref h9 :: .ref h10 :: .ref h11 :: .ref h12 :: .ref h13 :: .ref h14 :: .ref h15 :: .ref h16 :: .ref h17 :: .ref h18 :: .ref h19 :: .ref h20 :: .ref h21 :: .ref h22 :: .ref h23 :: .ref h24 :: .ref h25 :: .ref h26 :: .ref h27 :: .int 0 :: .ref h28 :: .ref h29 :: .int 0 :: .int 0 :: .int 0 :: .int 0 :: .int 0 :: .int 0 :: .ref h30 :: .int 0 :: .ref h31 :: .ref h32 :: .ref h33 :: .ref h34 :: .ref h35 :: .ref h36 :: .ref h37 :: .ref h38 :: .int 0 :: .int 0 :: .int 0 :: .int 0 :: .ref h39 :: .ref h40 :: .ref h41 :: .int 0 :: .ref h42 :: .int 0 :: .ref h43 :: .int 0 :: .int 0 :: .ref h44 :: .ref h45 :: .ref h46 :: .int 0 :: .ref h47 :: .ref h48 :: .ref h49 :: .ref h50 :: .ref h51 :: .ref h52 :: .ref h53 :: .int 0 :: .ref h54 :: .int 0 :: .ref h55 :: .ref h56 :: .ref h57 :: .int 0 :: .ref h58 :: .ref h59 :: .ref h60 :: .ref h61 :: .int 0 :: .ref h62 :: .ref h63 :: .ref h64 :: .ref h65 :: .int 0 :: .int 0 :: .int 0 :: .int 0 :: .int 0 :: .int 0 :: .int 0 :: .int 0 :: .int 0 :: .ref h66 :: .int 0 :: .ref h67 :: .int 0 :: .int 0 :: .int 0 :: .int 0 :: .int 0 :: .ref h68 :: .int 0 :: .int 0 :: .ref h69 :: .int 0 :: .ref h70 :: .int 0 :: .ref h71 :: .ref h72 :: .int 0 :: .ref h73 :: .ref h74 :: .ref h75 :: .ref h76 :: .long 0 :: .int 0 :: .ref h77 :: .ref h78 :: .ref h79 :: .ref h80 :: .ref h81 :: .ref h82 :: .ref h83 :: .ref h84 :: .ref h85 :: .ref h86 :: .ref h87 :: .ref h88 :: .ref h89 :: .ref h90 :: .ref h91 :: .int 0 :: .ref h92 :: .ref h93 :: .ref h94 :: .int 0 :: [])))] sz) := by
  refine Met.ofW (cc := cX12_feed) (maxL := 6) (ret := (some (.int))) (by decide) rfl ?_
  intro p e s m args below meth c s₁ B hml hv
  obtain ⟨rfl, hsz, hP, hK, hD0⟩ := hv
  have hx := B.exec
  have hb := B.bytes
  have hr := B.returns
  have hts := atoms_spec (ws := WS yX12_feed cX12_feed 6 (some (.int))) B.pre
  have ht : ∀ w ∈ TW, w.before _ s = true := fun w h => hts w (List.mem_cons_of_mem _ h)
  have hown : s.vm.findClass "PatternWorkshopModel" = some m.cls := findClass_of_methodNamed B.named
  have hlocks := B.notSynchronized
  subst hsz
  have hD := hD0.self (sz := s.heap.size)
  generalize hAe : va_A [(h0, .inr (15, (.int 0 :: .int 0 :: .ref h1 :: .int 0 :: .int (-1) :: .ref h2 :: .ref h3 :: .ref h4 :: .ref h5 :: .ref h6 :: .ref h7 :: .ref h8 :: .ref h9 :: .ref h10 :: .ref h11 :: .ref h12 :: .ref h13 :: .ref h14 :: .ref h15 :: .ref h16 :: .ref h17 :: .ref h18 :: .ref h19 :: .ref h20 :: .ref h21 :: .ref h22 :: .ref h23 :: .ref h24 :: .ref h25 :: .ref h26 :: .ref h27 :: .int 0 :: .ref h28 :: .ref h29 :: .int 0 :: .int 0 :: .int 0 :: .int 0 :: .int 0 :: .int 0 :: .ref h30 :: .int 0 :: .ref h31 :: .ref h32 :: .ref h33 :: .ref h34 :: .ref h35 :: .ref h36 :: .ref h37 :: .ref h38 :: .int 0 :: .int 0 :: .int 0 :: .int 0 :: .ref h39 :: .ref h40 :: .ref h41 :: .int 0 :: .ref h42 :: .int 0 :: .ref h43 :: .int 0 :: .int 0 :: .ref h44 :: .ref h45 :: .ref h46 :: .int 0 :: .ref h47 :: .ref h48 :: .ref h49 :: .ref h50 :: .ref h51 :: .ref h52 :: .ref h53 :: .int 0 :: .ref h54 :: .int 0 :: .ref h55 :: .ref h56 :: .ref h57 :: .int 0 :: .ref h58 :: .ref h59 :: .ref h60 :: .ref h61 :: .int 0 :: .ref h62 :: .ref h63 :: .ref h64 :: .ref h65 :: .int 0 :: .int 0 :: .int 0 :: .int 0 :: .int 0 :: .int 0 :: .int 0 :: .int 0 :: .int 0 :: .ref h66 :: .int 0 :: .ref h67 :: .int 0 :: .int 0 :: .int 0 :: .int 0 :: .int 0 :: .ref h68 :: .int 0 :: .int 0 :: .ref h69 :: .int 0 :: .ref h70 :: .int 0 :: .ref h71 :: .ref h72 :: .int 0 :: .ref h73 :: .ref h74 :: .ref h75 :: .ref h76 :: .long 0 :: .int 0 :: .ref h77 :: .ref h78 :: .ref h79 :: .ref h80 :: .ref h81 :: .ref h82 :: .ref h83 :: .ref h84 :: .ref h85 :: .ref h86 :: .ref h87 :: .ref h88 :: .ref h89 :: .ref h90 :: .ref h91 :: .int 0 :: .ref h92 :: .ref h93 :: .ref h94 :: .int 0 :: [])))] s.heap.size = A at hD ⊢
  have hA : ∀ q : Nat, s.heap.size ≤ q → A q := fun q h => by rw [← hAe]; exact Or.inr h
  have hS : va_S A s.heap s.heap [] := va_S.rf
  have hP : va_P (dC, dI) vwCl [(h0, .inr (15, (.int 0 :: .int 0 :: .ref h1 :: .int 0 :: .int (-1) :: .ref h2 :: .ref h3 :: .ref h4 :: .ref h5 :: .ref h6 :: .ref h7 :: .ref h8 :: .ref h9 :: .ref h10 :: .ref h11 :: .ref h12 :: .ref h13 :: .ref h14 :: .ref h15 :: .ref h16 :: .ref h17 :: .ref h18 :: .ref h19 :: .ref h20 :: .ref h21 :: .ref h22 :: .ref h23 :: .ref h24 :: .ref h25 :: .ref h26 :: .ref h27 :: .int 0 :: .ref h28 :: .ref h29 :: .int 0 :: .int 0 :: .int 0 :: .int 0 :: .int 0 :: .int 0 :: .ref h30 :: .int 0 :: .ref h31 :: .ref h32 :: .ref h33 :: .ref h34 :: .ref h35 :: .ref h36 :: .ref h37 :: .ref h38 :: .int 0 :: .int 0 :: .int 0 :: .int 0 :: .ref h39 :: .ref h40 :: .ref h41 :: .int 0 :: .ref h42 :: .int 0 :: .ref h43 :: .int 0 :: .int 0 :: .ref h44 :: .ref h45 :: .ref h46 :: .int 0 :: .ref h47 :: .ref h48 :: .ref h49 :: .ref h50 :: .ref h51 :: .ref h52 :: .ref h53 :: .int 0 :: .ref h54 :: .int 0 :: .ref h55 :: .ref h56 :: .ref h57 :: .int 0 :: .ref h58 :: .ref h59 :: .ref h60 :: .ref h61 :: .int 0 :: .ref h62 :: .ref h63 :: .ref h64 :: .ref h65 :: .int 0 :: .int 0 :: .int 0 :: .int 0 :: .int 0 :: .int 0 :: .int 0 :: .int 0 :: .int 0 :: .ref h66 :: .int 0 :: .ref h67 :: .int 0 :: .int 0 :: .int 0 :: .int 0 :: .int 0 :: .ref h68 :: .int 0 :: .int 0 :: .ref h69 :: .int 0 :: .ref h70 :: .int 0 :: .ref h71 :: .ref h72 :: .int 0 :: .ref h73 :: .ref h74 :: .ref h75 :: .ref h76 :: .long 0 :: .int 0 :: .ref h77 :: .ref h78 :: .ref h79 :: .ref h80 :: .ref h81 :: .ref h82 :: .ref h83 :: .ref h84 :: .ref h85 :: .ref h86 :: .ref h87 :: .ref h88 :: .ref h89 :: .ref h90 :: .ref h91 :: .int 0 :: .ref h92 :: .ref h93 :: .ref h94 :: .int 0 :: [])))] s.heap := hP
  have hl := lv_entry ([.ref h0, .int p0, .long w0]) (n := 6) (Nat.le_of_ble_eq_true rfl)
  rw [lg_entry_eq]
  generalize (lg_sl ([.ref h0, .int p0, .long w0]) ++ List.replicate (6 - (lg_sl ([.ref h0, .int p0, .long w0])).length) Slot.unset).toArray = ls at hl ⊢
  have hl : lv_has ls 6 [(0, .ref h0), (1, .int p0), (2, .long w0)] := hl
  clear hD0
  refine lv_aload_n hx hb dX12_feed_0 rfl (lv_at hl 0 rfl) ?_
  refine lv_iconst (v := 0) hx hb dX12_feed_1 (by decide) ?_
  refine va_put (D := (dC, dI)) (ci := 15) (v := .int 0) (ty := .int) (C := RX12) (T := TX12) (N := 143) hx hb ht inX12 tyX12 tyX12_ok nmX12 hown hK hP hD hS 0 rfl rfl 0 (by decide) (ht _ tw_2140) (fun _ h9 => h9) rfl (by decide +kernel) rfl rfl (Nat.le_of_ble_eq_true rfl) dX12_feed_2 (fun H_1 locs_1 hP_1 hD_1 hS_1 => ?_)
  have hP_1 : va_P (dC, dI) vwCl [(h0, .inr (15, (.int 0 :: .int 0 :: .ref h1 :: .int 0 :: .int (-1) :: .ref h2 :: .ref h3 :: .ref h4 :: .ref h5 :: .ref h6 :: .ref h7 :: .ref h8 :: .ref h9 :: .ref h10 :: .ref h11 :: .ref h12 :: .ref h13 :: .ref h14 :: .ref h15 :: .ref h16 :: .ref h17 :: .ref h18 :: .ref h19 :: .ref h20 :: .ref h21 :: .ref h22 :: .ref h23 :: .ref h24 :: .ref h25 :: .ref h26 :: .ref h27 :: .int 0 :: .ref h28 :: .ref h29 :: .int 0 :: .int 0 :: .int 0 :: .int 0 :: .int 0 :: .int 0 :: .ref h30 :: .int 0 :: .ref h31 :: .ref h32 :: .ref h33 :: .ref h34 :: .ref h35 :: .ref h36 :: .ref h37 :: .ref h38 :: .int 0 :: .int 0 :: .int 0 :: .int 0 :: .ref h39 :: .ref h40 :: .ref h41 :: .int 0 :: .ref h42 :: .int 0 :: .ref h43 :: .int 0 :: .int 0 :: .ref h44 :: .ref h45 :: .ref h46 :: .int 0 :: .ref h47 :: .ref h48 :: .ref h49 :: .ref h50 :: .ref h51 :: .ref h52 :: .ref h53 :: .int 0 :: .ref h54 :: .int 0 :: .ref h55 :: .ref h56 :: .ref h57 :: .int 0 :: .ref h58 :: .ref h59 :: .ref h60 :: .ref h61 :: .int 0 :: .ref h62 :: .ref h63 :: .ref h64 :: .ref h65 :: .int 0 :: .int 0 :: .int 0 :: .int 0 :: .int 0 :: .int 0 :: .int 0 :: .int 0 :: .int 0 :: .ref h66 :: .int 0 :: .ref h67 :: .int 0 :: .int 0 :: .int 0 :: .int 0 :: .int 0 :: .ref h68 :: .int 0 :: .int 0 :: .ref h69 :: .int 0 :: .ref h70 :: .int 0 :: .ref h71 :: .ref h72 :: .int 0 :: .ref h73 :: .ref h74 :: .ref h75 :: .ref h76 :: .long 0 :: .int 0 :: .ref h77 :: .ref h78 :: .ref h79 :: .ref h80 :: .ref h81 :: .ref h82 :: .ref h83 :: .ref h84 :: .ref h85 :: .ref h86 :: .ref h87 :: .ref h88 :: .ref h89 :: .ref h90 :: .ref h91 :: .int 0 :: .ref h92 :: .ref h93 :: .ref h94 :: .int 0 :: [])))] H_1 := hP_1
  have hD_1 : va_D A [(h0, .inr (15, (.int 0 :: .int 0 :: .ref h1 :: .int 0 :: .int (-1) :: .ref h2 :: .ref h3 :: .ref h4 :: .ref h5 :: .ref h6 :: .ref h7 :: .ref h8 :: .ref h9 :: .ref h10 :: .ref h11 :: .ref h12 :: .ref h13 :: .ref h14 :: .ref h15 :: .ref h16 :: .ref h17 :: .ref h18 :: .ref h19 :: .ref h20 :: .ref h21 :: .ref h22 :: .ref h23 :: .ref h24 :: .ref h25 :: .ref h26 :: .ref h27 :: .int 0 :: .ref h28 :: .ref h29 :: .int 0 :: .int 0 :: .int 0 :: .int 0 :: .int 0 :: .int 0 :: .ref h30 :: .int 0 :: .ref h31 :: .ref h32 :: .ref h33 :: .ref h34 :: .ref h35 :: .ref h36 :: .ref h37 :: .ref h38 :: .int 0 :: .int 0 :: .int 0 :: .int 0 :: .ref h39 :: .ref h40 :: .ref h41 :: .int 0 :: .ref h42 :: .int 0 :: .ref h43 :: .int 0 :: .int 0 :: .ref h44 :: .ref h45 :: .ref h46 :: .int 0 :: .ref h47 :: .ref h48 :: .ref h49 :: .ref h50 :: .ref h51 :: .ref h52 :: .ref h53 :: .int 0 :: .ref h54 :: .int 0 :: .ref h55 :: .ref h56 :: .ref h57 :: .int 0 :: .ref h58 :: .ref h59 :: .ref h60 :: .ref h61 :: .int 0 :: .ref h62 :: .ref h63 :: .ref h64 :: .ref h65 :: .int 0 :: .int 0 :: .int 0 :: .int 0 :: .int 0 :: .int 0 :: .int 0 :: .int 0 :: .int 0 :: .ref h66 :: .int 0 :: .ref h67 :: .int 0 :: .int 0 :: .int 0 :: .int 0 :: .int 0 :: .ref h68 :: .int 0 :: .int 0 :: .ref h69 :: .int 0 :: .ref h70 :: .int 0 :: .ref h71 :: .ref h72 :: .int 0 :: .ref h73 :: .ref h74 :: .ref h75 :: .ref h76 :: .long 0 :: .int 0 :: .ref h77 :: .ref h78 :: .ref h79 :: .ref h80 :: .ref h81 :: .ref h82 :: .ref h83 :: .ref h84 :: .ref h85 :: .ref h86 :: .ref h87 :: .ref h88 :: .ref h89 :: .ref h90 :: .ref h91 :: .int 0 :: .ref h92 :: .ref h93 :: .ref h94 :: .int 0 :: [])))] := hD_1
  clear hP hD hS
  refine lv_iload_n hx hb dX12_feed_5 rfl (lv_at hl 1 rfl) ?_
  refine lv_iconst (v := 1) hx hb dX12_feed_6 (by decide) ?_
  refine lv_bipush (v := 8) hx hb dX12_feed_7 (by decide) ?_
  have hPc_2 := hP_1.sub (ws' := []) [] rfl
  have hDc_2 := hD_1.sub (ws' := []) [] (by decide) rfl
  have hKc_2 := hK.sub (tys' := []) [] rfl
  have hFc_2 := va_free (wc := []) hD_1 hS_1 hA [] rfl
  refine va_calli (va_runS (As := [.int p0, .int 1, .int 8]) (rest := []) ⟨hx, hb, hml, hown, ht⟩ (mt_X12_in_v5 l dC dI p0 H_1.size) (cwS 3 ht (goodS tw_2574 tw_2575 tw_249 gw_X12_in) rfl rfl rfl (by decide +kernel) ⟨Nat.le_of_ble_eq_true rfl, Nat.le_of_ble_eq_true rfl⟩) ⟨fun a U g mk q => by obtain ⟨q0, q1, qP, qK, qD⟩ := q; exact ⟨q0, q1, qP, va_K.moved (u := U) (U := U.calling g mk a) (Vm.Alike.refl U.vm) qK, qD⟩, fun U hU hW => ⟨rfl, by rw [hU], by rw [hU]; exact hPc_2, va_K.moved hW.alike hKc_2, hDc_2.weaken (fun _ _ _ _ => trivial)⟩⟩ rfl rfl hl.1 rfl (lv_room (Nat.le_of_ble_eq_true rfl)) dX12_feed_9 ⟨Nat.le_of_ble_eq_true rfl, Nat.le_of_ble_eq_true rfl⟩) hS_1 (fun q _ h => hFc_2 q h) hFc_2 (fun r_2 u_2 t_2 H_2 locs_2 ht_2 hvm_2 hw_2 hB_2 hz_2 hk_2 hS_2 => ?_)
  rcases hw_2 with ⟨rfl, rfl, cc_2_0⟩ | ⟨rfl, rfl, cc_2_0, cc_2_1⟩ | ⟨rfl, rfl, cc_2_0, cc_2_1⟩
  · exact absurd cc_2_0 a_1
  · obtain ⟨hP1_2, hK1_2, hD1_2⟩ := hB_2
    rw [ht_2] at hP1_2
    have hK1_2 := va_K.moved hvm_2.symm hK1_2
    obtain ⟨hP_2, hD_2⟩ := va_join (wr := [(h0, .inr (15, (.int 0 :: .int 0 :: .ref h1 :: .int 0 :: .int (-1) :: .ref h2 :: .ref h3 :: .ref h4 :: .ref h5 :: .ref h6 :: .ref h7 :: .ref h8 :: .ref h9 :: .ref h10 :: .ref h11 :: .ref h12 :: .ref h13 :: .ref h14 :: .ref h15 :: .ref h16 :: .ref h17 :: .ref h18 :: .ref h19 :: .ref h20 :: .ref h21 :: .ref h22 :: .ref h23 :: .ref h24 :: .ref h25 :: .ref h26 :: .ref h27 :: .int 0 :: .ref h28 :: .ref h29 :: .int 0 :: .int 0 :: .int 0 :: .int 0 :: .int 0 :: .int 0 :: .ref h30 :: .int 0 :: .ref h31 :: .ref h32 :: .ref h33 :: .ref h34 :: .ref h35 :: .ref h36 :: .ref h37 :: .ref h38 :: .int 0 :: .int 0 :: .int 0 :: .int 0 :: .ref h39 :: .ref h40 :: .ref h41 :: .int 0 :: .ref h42 :: .int 0 :: .ref h43 :: .int 0 :: .int 0 :: .ref h44 :: .ref h45 :: .ref h46 :: .int 0 :: .ref h47 :: .ref h48 :: .ref h49 :: .ref h50 :: .ref h51 :: .ref h52 :: .ref h53 :: .int 0 :: .ref h54 :: .int 0 :: .ref h55 :: .ref h56 :: .ref h57 :: .int 0 :: .ref h58 :: .ref h59 :: .ref h60 :: .ref h61 :: .int 0 :: .ref h62 :: .ref h63 :: .ref h64 :: .ref h65 :: .int 0 :: .int 0 :: .int 0 :: .int 0 :: .int 0 :: .int 0 :: .int 0 :: .int 0 :: .int 0 :: .ref h66 :: .int 0 :: .ref h67 :: .int 0 :: .int 0 :: .int 0 :: .int 0 :: .int 0 :: .ref h68 :: .int 0 :: .int 0 :: .ref h69 :: .int 0 :: .ref h70 :: .int 0 :: .ref h71 :: .ref h72 :: .int 0 :: .ref h73 :: .ref h74 :: .ref h75 :: .ref h76 :: .long 0 :: .int 0 :: .ref h77 :: .ref h78 :: .ref h79 :: .ref h80 :: .ref h81 :: .ref h82 :: .ref h83 :: .ref h84 :: .ref h85 :: .ref h86 :: .ref h87 :: .ref h88 :: .ref h89 :: .ref h90 :: .ref h91 :: .int 0 :: .ref h92 :: .ref h93 :: .ref h94 :: .int 0 :: [])))]) (w1 := []) hP_1 hD_1 [] [0] rfl rfl (by decide) (by decide) hk_2 hFc_2 hP1_2 hD1_2
    have hK_2 := (hK.sub (tys' := []) [] rfl).app hK1_2
    have hK_2 : va_K (dC, dI) vwCl [] s := hK_2
    have hP_2 : va_P (dC, dI) vwCl [(h0, .inr (15, (.int 0 :: .int 0 :: .ref h1 :: .int 0 :: .int (-1) :: .ref h2 :: .ref h3 :: .ref h4 :: .ref h5 :: .ref h6 :: .ref h7 :: .ref h8 :: .ref h9 :: .ref h10 :: .ref h11 :: .ref h12 :: .ref h13 :: .ref h14 :: .ref h15 :: .ref h16 :: .ref h17 :: .ref h18 :: .ref h19 :: .ref h20 :: .ref h21 :: .ref h22 :: .ref h23 :: .ref h24 :: .ref h25 :: .ref h26 :: .ref h27 :: .int 0 :: .ref h28 :: .ref h29 :: .int 0 :: .int 0 :: .int 0 :: .int 0 :: .int 0 :: .int 0 :: .ref h30 :: .int 0 :: .ref h31 :: .ref h32 :: .ref h33 :: .ref h34 :: .ref h35 :: .ref h36 :: .ref h37 :: .ref h38 :: .int 0 :: .int 0 :: .int 0 :: .int 0 :: .ref h39 :: .ref h40 :: .ref h41 :: .int 0 :: .ref h42 :: .int 0 :: .ref h43 :: .int 0 :: .int 0 :: .ref h44 :: .ref h45 :: .ref h46 :: .int 0 :: .ref h47 :: .ref h48 :: .ref h49 :: .ref h50 :: .ref h51 :: .ref h52 :: .ref h53 :: .int 0 :: .ref h54 :: .int 0 :: .ref h55 :: .ref h56 :: .ref h57 :: .int 0 :: .ref h58 :: .ref h59 :: .ref h60 :: .ref h61 :: .int 0 :: .ref h62 :: .ref h63 :: .ref h64 :: .ref h65 :: .int 0 :: .int 0 :: .int 0 :: .int 0 :: .int 0 :: .int 0 :: .int 0 :: .int 0 :: .int 0 :: .ref h66 :: .int 0 :: .ref h67 :: .int 0 :: .int 0 :: .int 0 :: .int 0 :: .int 0 :: .ref h68 :: .int 0 :: .int 0 :: .ref h69 :: .int 0 :: .ref h70 :: .int 0 :: .ref h71 :: .ref h72 :: .int 0 :: .ref h73 :: .ref h74 :: .ref h75 :: .ref h76 :: .long 0 :: .int 0 :: .ref h77 :: .ref h78 :: .ref h79 :: .ref h80 :: .ref h81 :: .ref h82 :: .ref h83 :: .ref h84 :: .ref h85 :: .ref h86 :: .ref h87 :: .ref h88 :: .ref h89 :: .ref h90 :: .ref h91 :: .int 0 :: .ref h92 :: .ref h93 :: .ref h94 :: .int 0 :: [])))] H_2 := hP_2
    have hD_2 : va_D A [(h0, .inr (15, (.int 0 :: .int 0 :: .ref h1 :: .int 0 :: .int (-1) :: .ref h2 :: .ref h3 :: .ref h4 :: .ref h5 :: .ref h6 :: .ref h7 :: .ref h8 :: .ref h9 :: .ref h10 :: .ref h11 :: .ref h12 :: .ref h13 :: .ref h14 :: .ref h15 :: .ref h16 :: .ref h17 :: .ref h18 :: .ref h19 :: .ref h20 :: .ref h21 :: .ref h22 :: .ref h23 :: .ref h24 :: .ref h25 :: .ref h26 :: .ref h27 :: .int 0 :: .ref h28 :: .ref h29 :: .int 0 :: .int 0 :: .int 0 :: .int 0 :: .int 0 :: .int 0 :: .ref h30 :: .int 0 :: .ref h31 :: .ref h32 :: .ref h33 :: .ref h34 :: .ref h35 :: .ref h36 :: .ref h37 :: .ref h38 :: .int 0 :: .int 0 :: .int 0 :: .int 0 :: .ref h39 :: .ref h40 :: .ref h41 :: .int 0 :: .ref h42 :: .int 0 :: .ref h43 :: .int 0 :: .int 0 :: .ref h44 :: .ref h45 :: .ref h46 :: .int 0 :: .ref h47 :: .ref h48 :: .ref h49 :: .ref h50 :: .ref h51 :: .ref h52 :: .ref h53 :: .int 0 :: .ref h54 :: .int 0 :: .ref h55 :: .ref h56 :: .ref h57 :: .int 0 :: .ref h58 :: .ref h59 :: .ref h60 :: .ref h61 :: .int 0 :: .ref h62 :: .ref h63 :: .ref h64 :: .ref h65 :: .int 0 :: .int 0 :: .int 0 :: .int 0 :: .int 0 :: .int 0 :: .int 0 :: .int 0 :: .int 0 :: .ref h66 :: .int 0 :: .ref h67 :: .int 0 :: .int 0 :: .int 0 :: .int 0 :: .int 0 :: .ref h68 :: .int 0 :: .int 0 :: .ref h69 :: .int 0 :: .ref h70 :: .int 0 :: .ref h71 :: .ref h72 :: .int 0 :: .ref h73 :: .ref h74 :: .ref h75 :: .ref h76 :: .long 0 :: .int 0 :: .ref h77 :: .ref h78 :: .ref h79 :: .ref h80 :: .ref h81 :: .ref h82 :: .ref h83 :: .ref h84 :: .ref h85 :: .ref h86 :: .ref h87 :: .ref h88 :: .ref h89 :: .ref h90 :: .ref h91 :: .int 0 :: .ref h92 :: .ref h93 :: .ref h94 :: .int 0 :: [])))] := hD_2
    clear hP_1 hD_1 hS_1 hK hPc_2 hDc_2 hKc_2 hFc_2 hP1_2 hK1_2 hD1_2 hk_2 hz_2
    refine lv_istore (lv' := [(4, .int 0), (0, .ref h0), (1, .int p0), (2, .long w0)]) hx hb dX12_feed_12 hl (by decide) rfl (fun ls_3 hl_3 => ?_)
    clear hl
    refine lv_iconst (v := 0) hx hb dX12_feed_14 (by decide) ?_
    refine lv_istore (lv' := [(5, .int 0), (4, .int 0), (0, .ref h0), (1, .int p0), (2, .long w0)]) hx hb dX12_feed_15 hl_3 (by decide) rfl (fun ls_4 hl_4 => ?_)
    clear hl_3
    refine lv_iload hx hb dX12_feed_17 (lv_at hl_4 0 rfl) ?_
    refine lv_iload_n hx hb dX12_feed_19 rfl (lv_at hl_4 3 rfl) ?_
    refine lv_icmp_ge (tgt := 55) hx hb dX12_feed_20 (by decide) (fun c_5 => ?_) (fun c_5 => ?_)
    · exact (by simp [Int32.lt_iff_toInt_lt, Int32.le_iff_toInt_le] at a_0 c_5; omega : False).elim
    · refine lv_iload hx hb dX12_feed_23 (lv_at hl_4 1 rfl) ?_
      refine lv_if_eq (tgt := 55) hx hb dX12_feed_25 (by decide) (fun _ => ?_) (fun c_ => absurd (by decide) c_)
      refine lv_iload hx hb dX12_feed_55 (lv_at hl_4 1 rfl) ?_
      refine lv_if_ne (tgt := 63) hx hb dX12_feed_57 (by decide) (fun c_ => absurd (by decide) c_) (fun _ => ?_)
      refine lv_bipush (v := (-4)) hx hb dX12_feed_60 (by decide) ?_
      have hP9 := hP_2.sub (ws' := []) [] rfl
      have hD9 := hD_2.sub (ws' := []) [] (by decide) rfl
      have hK9 := hK_2.sub (tys' := []) [] rfl
      refine W.widen (k := 0) (n := 0) (by decide) (by decide) ?_
      exact W.iret (v := (-4)) hx hb hr (fun t9 ht9 hW9 => ⟨⟨(-4), 0, rfl, ⟨rfl, rfl, cc_2_0, cc_2_1, c_5⟩, ⟨by rw [ht9]; exact hP9, va_K.moved hW9.alike hK9, hD9⟩⟩, hS_2.F ht9⟩) hS_2.2.2 dX12_feed_62
  · exact absurd a_0 cc_2_1
set_option maxHeartbeats 4000000 in
set_option maxRecDepth 100000 in
theorem mt_X11_byteOf (l : Launch) (dC : Nat → ClassId) (dI : Nat → Nat → Nat) (w0 : Int64) (sz : Nat) : Met l yX11_byteOf (WS yX11_byteOf cX11_byteOf 3 (some (.int))) ({ frames := 0, cells := 0, slots := 0, locals := 0 }) (va_Pc [.long w0, .int 0] (fun U => U.heap.size = sz ∧ va_P (dC, dI) vwCl [] U.heap ∧ va_K (dC, dI) vwCl [] U ∧ va_D (fun _ => True) [])) (va_Qi (fun (r : Int32) (u : Nat) => (u = 0 ∧ r = (((w0.toUInt64 >>> ((0 : Int32).toInt64.toUInt64 &&& Int64.toUInt64 63)).toInt64).toInt32 &&& 255))) (fun (_ : Nat) (t : State) => (va_P (dC, dI) vwCl [] t.heap ∧ va_K (dC, dI) vwCl [] t ∧ va_D (va_A [] sz) [])) (va_A [] sz)) 0 0 (va_A [] sz) := by
  refine Met.ofW (cc := cX11_byteOf) (maxL := 3) (ret := (some (.int))) (by decide) rfl ?_
  intro p e s m args below meth c s₁ B hml hv
  obtain ⟨rfl, hsz, hP, hK, hD0⟩ := hv
  have hx := B.exec
  have hb := B.bytes
  have hr := B.returns
  have hts := atoms_spec (ws := WS yX11_byteOf cX11_byteOf 3 (some (.int))) B.pre
  have ht : ∀ w ∈ TW, w.before _ s = true := fun w h => hts w (List.mem_cons_of_mem _ h)
  have hown : s.vm.findClass "PatternWorkshop" = some m.cls := findClass_of_methodNamed B.named
  have hlocks := B.notSynchronized
  subst hsz
  have hD := hD0.self (sz := s.heap.size)
  generalize hAe : va_A [] s.heap.size = A at hD ⊢
  have hA : ∀ q : Nat, s.heap.size ≤ q → A q := fun q h => by rw [← hAe]; exact Or.inr h
  have hS : va_S A s.heap s.heap [] := va_S.rf
  have hP : va_P (dC, dI) vwCl [] s.heap := hP
  have hl := lv_entry ([.long w0, .int 0]) (n := 3) (Nat.le_of_ble_eq_true rfl)
  rw [lg_entry_eq]
  generalize (lg_sl ([.long w0, .int 0]) ++ List.replicate (3 - (lg_sl ([.long w0, .int 0])).length) Slot.unset).toArray = ls at hl ⊢
  have hl : lv_has ls 3 [(0, .long w0), (2, .int 0)] := hl
  clear hD0
  refine lv_lload_n hx hb dX11_byteOf_0 rfl (lv_at hl 0 rfl) ?_
  refine lv_bipush (v := 8) hx hb dX11_byteOf_1 (by decide) ?_
  refine lv_iload_n hx hb dX11_byteOf_3 rfl (lv_at hl 1 rfl) ?_
  refine lv_imul hx hb dX11_byteOf_4 ?_
  refine lv_topi (fun x_1 ex_1 => ?_)
  obtain rfl : x_1 = 0 := ex_1.trans (by decide)
  refine lv_lushr (v := (w0.toUInt64 >>> ((0 : Int32).toInt64.toUInt64 &&& Int64.toUInt64 63)).toInt64) hx hb dX11_byteOf_5 rfl ?_
  refine lv_l2i (v := ((w0.toUInt64 >>> ((0 : Int32).toInt64.toUInt64 &&& Int64.toUInt64 63)).toInt64).toInt32) hx hb dX11_byteOf_6 rfl ?_
  refine lv_sipush (v := 255) hx hb dX11_byteOf_7 (by decide) ?_
  refine lv_iand hx hb dX11_byteOf_10 ?_
  have hP9 := hP.sub (ws' := []) [] rfl
  have hD9 := hD.sub (ws' := []) [] (by decide) rfl
  have hK9 := hK.sub (tys' := []) [] rfl
  refine W.widen (k := 0) (n := 0) (by decide) (by decide) ?_
  exact W.iret (v := (((w0.toUInt64 >>> ((0 : Int32).toInt64.toUInt64 &&& Int64.toUInt64 63)).toInt64).toInt32 &&& 255)) hx hb hr (fun t9 ht9 hW9 => ⟨⟨(((w0.toUInt64 >>> ((0 : Int32).toInt64.toUInt64 &&& Int64.toUInt64 63)).toInt64).toInt32 &&& 255), 0, rfl, ⟨rfl, rfl⟩, ⟨by rw [ht9]; exact hP9, va_K.moved hW9.alike hK9, hD9⟩⟩, hS.F ht9⟩) hS.2.2 dX11_byteOf_11
set_option maxHeartbeats 4000000 in
set_option maxRecDepth 100000 in
theorem mt_X11_isTapeSign (l : Launch) (dC : Nat → ClassId) (dI : Nat → Nat → Nat) (p0 : Int32) (sz : Nat) : Met l yX11_isTapeSign (WS yX11_isTapeSign cX11_isTapeSign 1 (some (.boolean))) ({ frames := 0, cells := 0, slots := 0, locals := 0 }) (va_Pc [.int p0] (fun U => U.heap.size = sz ∧ va_P (dC, dI) vwCl [] U.heap ∧ va_K (dC, dI) vwCl [] U ∧ va_D (fun _ => True) [])) (va_Qi (fun (r : Int32) (u : Nat) => (u = 0 ∧ r = 0 ∧ (p0 < 32)) ∨ (u = 1 ∧ r = 0 ∧ (¬ p0 < 32) ∧ (126 < p0)) ∨ (u = 2 ∧ r = 1 ∧ (¬ p0 < 32) ∧ (¬ 126 < p0))) (fun (_ : Nat) (t : State) => (va_P (dC, dI) vwCl [] t.heap ∧ va_K (dC, dI) vwCl [] t ∧ va_D (va_A [] sz) [])) (va_A [] sz)) 0 0 (va_A [] sz) := by
  refine Met.ofW (cc := cX11_isTapeSign) (maxL := 1) (ret := (some (.boolean))) (by decide) rfl ?_
  intro p e s m args below meth c s₁ B hml hv
  obtain ⟨rfl, hsz, hP, hK, hD0⟩ := hv
  have hx := B.exec
  have hb := B.bytes
  have hr := B.returns
  have hts := atoms_spec (ws := WS yX11_isTapeSign cX11_isTapeSign 1 (some (.boolean))) B.pre
  have ht : ∀ w ∈ TW, w.before _ s = true := fun w h => hts w (List.mem_cons_of_mem _ h)
  have hown : s.vm.findClass "PatternWorkshop" = some m.cls := findClass_of_methodNamed B.named
  have hlocks := B.notSynchronized
  subst hsz
  have hD := hD0.self (sz := s.heap.size)
  generalize hAe : va_A [] s.heap.size = A at hD ⊢
  have hA : ∀ q : Nat, s.heap.size ≤ q → A q := fun q h => by rw [← hAe]; exact Or.inr h
  have hS : va_S A s.heap s.heap [] := va_S.rf
  have hP : va_P (dC, dI) vwCl [] s.heap := hP
  have hl := lv_entry ([.int p0]) (n := 1) (Nat.le_of_ble_eq_true rfl)
  rw [lg_entry_eq]
  generalize (lg_sl ([.int p0]) ++ List.replicate (1 - (lg_sl ([.int p0])).length) Slot.unset).toArray = ls at hl ⊢
  have hl : lv_has ls 1 [(0, .int p0)] := hl
  clear hD0
  refine lv_iload_n hx hb dX11_isTapeSign_0 rfl (lv_at hl 0 rfl) ?_
  refine lv_bipush (v := 32) hx hb dX11_isTapeSign_1 (by decide) ?_
  refine lv_icmp_lt (tgt := 16) hx hb dX11_isTapeSign_3 (by decide) (fun c_1 => ?_) (fun c_1 => ?_)
  · refine lv_iconst (v := 0) hx hb dX11_isTapeSign_16 (by decide) ?_
    have hP9 := hP.sub (ws' := []) [] rfl
    have hD9 := hD.sub (ws' := []) [] (by decide) rfl
    have hK9 := hK.sub (tys' := []) [] rfl
    refine W.widen (k := 0) (n := 0) (by decide) (by decide) ?_
    exact W.zret (v := 0) hx hb hr rfl (fun t9 ht9 hW9 => ⟨⟨0, 0, rfl, (Or.inl ⟨rfl, rfl, c_1⟩), ⟨by rw [ht9]; exact hP9, va_K.moved hW9.alike hK9, hD9⟩⟩, hS.F ht9⟩) hS.2.2 dX11_isTapeSign_17
  · refine lv_iload_n hx hb dX11_isTapeSign_6 rfl (lv_at hl 0 rfl) ?_
    refine lv_bipush (v := 126) hx hb dX11_isTapeSign_7 (by decide) ?_
    refine lv_icmp_gt (tgt := 16) hx hb dX11_isTapeSign_9 (by decide) (fun c_2 => ?_) (fun c_2 => ?_)
    · refine lv_iconst (v := 0) hx hb dX11_isTapeSign_16 (by decide) ?_
      have hP9 := hP.sub (ws' := []) [] rfl
      have hD9 := hD.sub (ws' := []) [] (by decide) rfl
      have hK9 := hK.sub (tys' := []) [] rfl
      refine W.widen (k := 0) (n := 0) (by decide) (by decide) ?_
      exact W.zret (v := 0) hx hb hr rfl (fun t9 ht9 hW9 => ⟨⟨0, 1, rfl, (Or.inr (Or.inl ⟨rfl, rfl, c_1, c_2⟩)), ⟨by rw [ht9]; exact hP9, va_K.moved hW9.alike hK9, hD9⟩⟩, hS.F ht9⟩) hS.2.2 dX11_isTapeSign_17
    · refine lv_iconst (v := 1) hx hb dX11_isTapeSign_12 (by decide) ?_
      refine lv_goto (tgt := 17) hx hb dX11_isTapeSign_13 (by decide) ?_
      have hP9 := hP.sub (ws' := []) [] rfl
      have hD9 := hD.sub (ws' := []) [] (by decide) rfl
      have hK9 := hK.sub (tys' := []) [] rfl
      refine W.widen (k := 0) (n := 0) (by decide) (by decide) ?_
      exact W.zret (v := 1) hx hb hr rfl (fun t9 ht9 hW9 => ⟨⟨1, 2, rfl, (Or.inr (Or.inr ⟨rfl, rfl, c_1, c_2⟩)), ⟨by rw [ht9]; exact hP9, va_K.moved hW9.alike hK9, hD9⟩⟩, hS.F ht9⟩) hS.2.2 dX11_isTapeSign_17
set_option maxHeartbeats 4000000 in
set_option maxRecDepth 100000 in
theorem mt_X7_add (l : Launch) (dC : Nat → ClassId) (dI : Nat → Nat → Nat) (h0 h1 : Nat) (k0 : ClassId) (p0 : Int32) (sz : Nat) : Met l yX7_add (WS yX7_add cX7_add 2 none) ({ frames := 0, cells := 0, slots := 0, locals := 0 }) (va_Pc [.ref h0, .int p0] (fun U => U.heap.size = sz ∧ va_P (dC, dI) vwCl [(h0, .inr (10, [.ref h1, .int 0, .int 0, .int 0])), (h1, .inl (k0, 200, .inl (fun _ => 0)))] U.heap ∧ va_K (dC, dI) vwCl [(k0, .int)] U ∧ va_D (fun _ => True) [(h0, .inr (10, [.ref h1, .int 0, .int 0, .int 0])), (h1, .inl (k0, 200, .inl (fun _ => 0)))])) (va_Qv (fun (u : Nat) => (u = 0)) (fun (_ : Nat) (t : State) => (va_P (dC, dI) vwCl [(h0, .inr (10, [.ref h1, .int 1, .int 0, .int 0])), (h1, .inl (k0, 200, .inl (upd (fun _ => 0) 0 p0)))] t.heap ∧ va_K (dC, dI) vwCl [(k0, .int)] t ∧ va_D (va_A [(h0, .inr (10, [.ref h1, .int 0, .int 0, .int 0])), (h1, .inl (k0, 200, .inl (fun _ => 0)))] sz) [(h0, .inr (10, [.ref h1, .int 1, .int 0, .int 0])), (h1, .inl (k0, 200, .inl (upd (fun _ => 0) 0 p0)))])) (va_A [(h0, .inr (10, [.ref h1, .int 0, .int 0, .int 0])), (h1, .inl (k0, 200, .inl (fun _ => 0)))] sz)) 0 0 (va_A [(h0, .inr (10, [.ref h1, .int 0, .int 0, .int 0])), (h1, .inl (k0, 200, .inl (fun _ => 0)))] sz) := by
  refine Met.ofW (cc := cX7_add) (maxL := 2) (ret := none) (by decide) rfl ?_
  intro p e s m args below meth c s₁ B hml hv
  obtain ⟨rfl, hsz, hP, hK, hD0⟩ := hv
  have hx := B.exec
  have hb := B.bytes
  have hr := B.returns
  have hts := atoms_spec (ws := WS yX7_add cX7_add 2 none) B.pre
  have ht : ∀ w ∈ TW, w.before _ s = true := fun w h => hts w (List.mem_cons_of_mem _ h)
  have hown : s.vm.findClass "PatternWorkshop$Row" = some m.cls := findClass_of_methodNamed B.named
  have hlocks := B.notSynchronized
  subst hsz
  have hD := hD0.self (sz := s.heap.size)
  generalize hAe : va_A [(h0, .inr (10, [.ref h1, .int 0, .int 0, .int 0])), (h1, .inl (k0, 200, .inl (fun _ => 0)))] s.heap.size = A at hD ⊢
  have hA : ∀ q : Nat, s.heap.size ≤ q → A q := fun q h => by rw [← hAe]; exact Or.inr h
  have hS : va_S A s.heap s.heap [] := va_S.rf
  have hP : va_P (dC, dI) vwCl [(h0, .inr (10, [.ref h1, .int 0, .int 0, .int 0])), (h1, .inl (k0, 200, .inl (fun _ => 0)))] s.heap := hP
  have hl := lv_entry ([.ref h0, .int p0]) (n := 2) (Nat.le_of_ble_eq_true rfl)
  rw [lg_entry_eq]
  generalize (lg_sl ([.ref h0, .int p0]) ++ List.replicate (2 - (lg_sl ([.ref h0, .int p0])).length) Slot.unset).toArray = ls at hl ⊢
  have hl : lv_has ls 2 [(0, .ref h0), (1, .int p0)] := hl
  clear hD0
  refine lv_aload_n hx hb dX7_add_0 rfl (lv_at hl 0 rfl) ?_
  refine va_get (D := (dC, dI)) (ci := 10) (v := .int 0) (C := RX7) (T := TX7) (N := 4) hx hb ht inX7 hown hK hP 0 rfl rfl 1 (by decide) (ht _ tw_277) (fun _ h9 => h9) rfl dX7_add_1 ?_
  refine lv_if_lt (tgt := 42) hx hb dX7_add_4 (by decide) (fun c_ => absurd c_ (by decide)) (fun _ => ?_)
  refine lv_aload_n hx hb dX7_add_7 rfl (lv_at hl 0 rfl) ?_
  refine va_get (D := (dC, dI)) (ci := 10) (v := .int 0) (C := RX7) (T := TX7) (N := 4) hx hb ht inX7 hown hK hP 0 rfl rfl 1 (by decide) (ht _ tw_277) (fun _ h9 => h9) rfl dX7_add_8 ?_
  refine lv_aload_n hx hb dX7_add_11 rfl (lv_at hl 0 rfl) ?_
  refine va_get (D := (dC, dI)) (ci := 10) (v := .ref h1) (C := RX7) (T := TX7) (N := 4) hx hb ht inX7 hown hK hP 0 rfl rfl 0 (by decide) (ht _ tw_276) (fun _ h9 => h9) rfl dX7_add_12 ?_
  refine va_alen hx hb hK hP 1 0 rfl rfl (v := 200) (show Int32.ofNat 200 = 200 by decide) dX7_add_15 ?_
  refine lv_icmp_ge (tgt := 42) hx hb dX7_add_16 (by decide) (fun c_ => absurd c_ (by decide)) (fun _ => ?_)
  refine lv_aload_n hx hb dX7_add_19 rfl (lv_at hl 0 rfl) ?_
  refine va_get (D := (dC, dI)) (ci := 10) (v := .ref h1) (C := RX7) (T := TX7) (N := 4) hx hb ht inX7 hown hK hP 0 rfl rfl 0 (by decide) (ht _ tw_276) (fun _ h9 => h9) rfl dX7_add_20 ?_
  refine lv_aload_n hx hb dX7_add_23 rfl (lv_at hl 0 rfl) ?_
  refine va_get (D := (dC, dI)) (ci := 10) (v := .int 0) (C := RX7) (T := TX7) (N := 4) hx hb ht inX7 hown hK hP 0 rfl rfl 1 (by decide) (ht _ tw_277) (fun _ h9 => h9) rfl dX7_add_24 ?_
  refine lv_iload_n hx hb dX7_add_27 rfl (lv_at hl 1 rfl) ?_
  refine va_iast hx hb hK hP hD hS 1 0 rfl rfl (i := 0) (vpi (by decide)) dX7_add_28 (fun H_1 locs_1 hP_1 hD_1 hS_1 => ?_)
  have hP_1 : va_P (dC, dI) vwCl [(h0, .inr (10, [.ref h1, .int 0, .int 0, .int 0])), (h1, .inl (k0, 200, .inl (upd (fun _ => 0) 0 p0)))] H_1 := hP_1
  have hD_1 : va_D A [(h0, .inr (10, [.ref h1, .int 0, .int 0, .int 0])), (h1, .inl (k0, 200, .inl (upd (fun _ => 0) 0 p0)))] := hD_1
  clear hP hD hS
  refine lv_aload_n hx hb dX7_add_29 rfl (lv_at hl 0 rfl) ?_
  refine lv_dup hx hb dX7_add_30 rfl ?_
  refine va_get (D := (dC, dI)) (ci := 10) (v := .int 0) (C := RX7) (T := TX7) (N := 4) hx hb ht inX7 hown hK hP_1 0 rfl rfl 1 (by decide) (ht _ tw_277) (fun _ h9 => h9) rfl dX7_add_31 ?_
  refine lv_iconst (v := 1) hx hb dX7_add_34 (by decide) ?_
  refine lv_iadd hx hb dX7_add_35 ?_
  refine lv_topi (fun x_2 ex_2 => ?_)
  obtain rfl : x_2 = 1 := ex_2.trans (by decide)
  refine va_put (D := (dC, dI)) (ci := 10) (v := .int 1) (ty := .int) (C := RX7) (T := TX7) (N := 4) hx hb ht inX7 tyX7 tyX7_ok nmX7 hown hK hP_1 hD_1 hS_1 0 rfl rfl 1 (by decide) (ht _ tw_277) (fun _ h9 => h9) rfl (by decide +kernel) rfl rfl (Nat.le_of_ble_eq_true rfl) dX7_add_36 (fun H_3 locs_3 hP_3 hD_3 hS_3 => ?_)
  have hP_3 : va_P (dC, dI) vwCl [(h0, .inr (10, [.ref h1, .int 1, .int 0, .int 0])), (h1, .inl (k0, 200, .inl (upd (fun _ => 0) 0 p0)))] H_3 := hP_3
  have hD_3 : va_D A [(h0, .inr (10, [.ref h1, .int 1, .int 0, .int 0])), (h1, .inl (k0, 200, .inl (upd (fun _ => 0) 0 p0)))] := hD_3
  clear hP_1 hD_1 hS_1
  refine lv_goto (tgt := 47) hx hb dX7_add_39 (by decide) ?_
  have hP9 := hP_3.sub (ws' := [(h0, .inr (10, [.ref h1, .int 1, .int 0, .int 0])), (h1, .inl (k0, 200, .inl (upd (fun _ => 0) 0 p0)))]) [0, 1] rfl
  have hD9 := hD_3.sub (ws' := [(h0, .inr (10, [.ref h1, .int 1, .int 0, .int 0])), (h1, .inl (k0, 200, .inl (upd (fun _ => 0) 0 p0)))]) [0, 1] (by decide) rfl
  have hK9 := hK.sub (tys' := [(k0, .int)]) [0] rfl
  refine W.widen (k := 0) (n := 0) (by decide) (by decide) ?_
  exact W.vret hx hb hr (fun t9 ht9 hW9 => ⟨⟨0, rfl, rfl, ⟨by rw [ht9]; exact hP9, va_K.moved hW9.alike hK9, hD9⟩⟩, hS_3.F ht9⟩) hS_3.2.2 dX7_add_47
def GC1 (w0 : Int64) : Prop := (¬ (((w0.toUInt64 >>> ((0 : Int32).toInt64.toUInt64 &&& Int64.toUInt64 63)).toInt64).toInt32 &&& 255) < 32) ∧ (¬ 126 < (((w0.toUInt64 >>> ((0 : Int32).toInt64.toUInt64 &&& Int64.toUInt64 63)).toInt64).toInt32 &&& 255))
set_option maxHeartbeats 4000000 in
set_option maxRecDepth 100000 in
theorem mt_X11_feed_v3 (l : Launch) (dC : Nat → ClassId) (dI : Nat → Nat → Nat) (h0 h1 h2 h3 h4 h5 h6 h7 h8 h9 h10 h11 h12 h13 : Nat) (k0 : ClassId) (w0 : Int64) (sz : Nat) : Met l yX11_feed (WS yX11_feed cX11_feed 5 (some (.int))) ({ frames := 1, cells := 0, slots := 0, locals := 22 }) (va_Pc [.ref h0, .int 1, .long w0] (fun U => U.heap.size = sz ∧ va_P (dC, dI) vwCl [(h0, .inr (14, [.ref h1, .ref h2, .ref h3, .ref h4, .int 0, .ref h5, .ref h6, .ref h7, .ref h8, .ref h9, .ref h10, .ref h11, .ref h12, .int (-1), .int 0, .int 0, .int (-1), .int (-1)])), (h1, .inr (10, [.ref h13, .int 0, .int 0, .int 0])), (h13, .inl (k0, 200, .inl (fun _ => 0)))] U.heap ∧ va_K (dC, dI) vwCl [(k0, .int)] U ∧ va_D (fun _ => True) [(h0, .inr (14, [.ref h1, .ref h2, .ref h3, .ref h4, .int 0, .ref h5, .ref h6, .ref h7, .ref h8, .ref h9, .ref h10, .ref h11, .ref h12, .int (-1), .int 0, .int 0, .int (-1), .int (-1)])), (h1, .inr (10, [.ref h13, .int 0, .int 0, .int 0])), (h13, .inl (k0, 200, .inl (fun _ => 0)))])) (va_Qi (fun (r : Int32) (u : Nat) => (u = 0 ∧ r = (-4) ∧ (¬ GC1 w0)) ∨ (u = 1 ∧ r = 1 ∧ (GC1 w0))) (fun (_ : Nat) (t : State) => (va_P (dC, dI) vwCl [] t.heap ∧ va_K (dC, dI) vwCl [] t ∧ va_D (va_A [(h0, .inr (14, [.ref h1, .ref h2, .ref h3, .ref h4, .int 0, .ref h5, .ref h6, .ref h7, .ref h8, .ref h9, .ref h10, .ref h11, .ref h12, .int (-1), .int 0, .int 0, .int (-1), .int (-1)])), (h1, .inr (10, [.ref h13, .int 0, .int 0, .int 0])), (h13, .inl (k0, 200, .inl (fun _ => 0)))] sz) [])) (va_A [(h0, .inr (14, [.ref h1, .ref h2, .ref h3, .ref h4, .int 0, .ref h5, .ref h6, .ref h7, .ref h8, .ref h9, .ref h10, .ref h11, .ref h12, .int (-1), .int 0, .int 0, .int (-1), .int (-1)])), (h1, .inr (10, [.ref h13, .int 0, .int 0, .int 0])), (h13, .inl (k0, 200, .inl (fun _ => 0)))] sz)) 0 0 (va_A [(h0, .inr (14, [.ref h1, .ref h2, .ref h3, .ref h4, .int 0, .ref h5, .ref h6, .ref h7, .ref h8, .ref h9, .ref h10, .ref h11, .ref h12, .int (-1), .int 0, .int 0, .int (-1), .int (-1)])), (h1, .inr (10, [.ref h13, .int 0, .int 0, .int 0])), (h13, .inl (k0, 200, .inl (fun _ => 0)))] sz) := by
  refine Met.ofW (cc := cX11_feed) (maxL := 5) (ret := (some (.int))) (by decide) rfl ?_
  intro p e s m args below meth c s₁ B hml hv
  obtain ⟨rfl, hsz, hP, hK, hD0⟩ := hv
  have hx := B.exec
  have hb := B.bytes
  have hr := B.returns
  have hts := atoms_spec (ws := WS yX11_feed cX11_feed 5 (some (.int))) B.pre
  have ht : ∀ w ∈ TW, w.before _ s = true := fun w h => hts w (List.mem_cons_of_mem _ h)
  have hown : s.vm.findClass "PatternWorkshop" = some m.cls := findClass_of_methodNamed B.named
  have hlocks := B.notSynchronized
  subst hsz
  have hD := hD0.self (sz := s.heap.size)
  generalize hAe : va_A [(h0, .inr (14, [.ref h1, .ref h2, .ref h3, .ref h4, .int 0, .ref h5, .ref h6, .ref h7, .ref h8, .ref h9, .ref h10, .ref h11, .ref h12, .int (-1), .int 0, .int 0, .int (-1), .int (-1)])), (h1, .inr (10, [.ref h13, .int 0, .int 0, .int 0])), (h13, .inl (k0, 200, .inl (fun _ => 0)))] s.heap.size = A at hD ⊢
  have hA : ∀ q : Nat, s.heap.size ≤ q → A q := fun q h => by rw [← hAe]; exact Or.inr h
  have hS : va_S A s.heap s.heap [] := va_S.rf
  have hP : va_P (dC, dI) vwCl [(h0, .inr (14, [.ref h1, .ref h2, .ref h3, .ref h4, .int 0, .ref h5, .ref h6, .ref h7, .ref h8, .ref h9, .ref h10, .ref h11, .ref h12, .int (-1), .int 0, .int 0, .int (-1), .int (-1)])), (h1, .inr (10, [.ref h13, .int 0, .int 0, .int 0])), (h13, .inl (k0, 200, .inl (fun _ => 0)))] s.heap := hP
  have hl := lv_entry ([.ref h0, .int 1, .long w0]) (n := 5) (Nat.le_of_ble_eq_true rfl)
  rw [lg_entry_eq]
  generalize (lg_sl ([.ref h0, .int 1, .long w0]) ++ List.replicate (5 - (lg_sl ([.ref h0, .int 1, .long w0])).length) Slot.unset).toArray = ls at hl ⊢
  have hl : lv_has ls 5 [(0, .ref h0), (1, .int 1), (2, .long w0)] := hl
  clear hD0
  refine lv_iload_n hx hb dX11_feed_0 rfl (lv_at hl 1 rfl) ?_
  refine lv_iconst (v := 1) hx hb dX11_feed_1 (by decide) ?_
  refine lv_icmp_lt (tgt := 11) hx hb dX11_feed_2 (by decide) (fun c_ => absurd c_ (by decide)) (fun _ => ?_)
  refine lv_iload_n hx hb dX11_feed_5 rfl (lv_at hl 1 rfl) ?_
  refine lv_bipush (v := 8) hx hb dX11_feed_6 (by decide) ?_
  refine lv_icmp_le (tgt := 14) hx hb dX11_feed_8 (by decide) (fun _ => ?_) (fun c_ => absurd (by decide) c_)
  refine lv_iconst (v := 0) hx hb dX11_feed_14 (by decide) ?_
  refine lv_istore (lv' := [(4, .int 0), (0, .ref h0), (1, .int 1), (2, .long w0)]) hx hb dX11_feed_15 hl (by decide) rfl (fun ls_1 hl_1 => ?_)
  clear hl
  refine lv_iload hx hb dX11_feed_17 (lv_at hl_1 0 rfl) ?_
  refine lv_iload_n hx hb dX11_feed_19 rfl (lv_at hl_1 2 rfl) ?_
  refine lv_icmp_ge (tgt := 44) hx hb dX11_feed_20 (by decide) (fun c_ => absurd c_ (by decide)) (fun _ => ?_)
  refine lv_lload_n hx hb dX11_feed_23 rfl (lv_at hl_1 3 rfl) ?_
  refine lv_iload hx hb dX11_feed_24 (lv_at hl_1 0 rfl) ?_
  have hPc_2 := hP.sub (ws' := []) [] rfl
  have hDc_2 := hD.sub (ws' := []) [] (by decide) rfl
  have hKc_2 := hK.sub (tys' := []) [] rfl
  have hFc_2 := va_free (wc := []) hD hS hA [] rfl
  refine va_calli (va_runS (As := [.long w0, .int 0]) (rest := []) ⟨hx, hb, hml, hown, ht⟩ (mt_X11_byteOf l dC dI w0 s.heap.size) (cwS 2 ht (goodS tw_859 tw_860 tw_236 gw_X11_byteOf) rfl rfl rfl (by decide +kernel) ⟨Nat.le_of_ble_eq_true rfl, Nat.le_of_ble_eq_true rfl⟩) ⟨fun a U g mk q => by obtain ⟨q0, q1, qP, qK, qD⟩ := q; exact ⟨q0, q1, qP, va_K.moved (u := U) (U := U.calling g mk a) (Vm.Alike.refl U.vm) qK, qD⟩, fun U hU hW => ⟨rfl, by rw [hU], by rw [hU]; exact hPc_2, va_K.moved hW.alike hKc_2, hDc_2.weaken (fun _ _ _ _ => trivial)⟩⟩ rfl rfl hl_1.1 rfl (lv_room (Nat.le_of_ble_eq_true rfl)) dX11_feed_26 ⟨Nat.le_of_ble_eq_true rfl, Nat.le_of_ble_eq_true rfl⟩) hS (fun q _ h => hFc_2 q h) hFc_2 (fun r_2 u_2 t_2 H_2 locs_2 ht_2 hvm_2 hw_2 hB_2 hz_2 hk_2 hS_2 => ?_)
  obtain ⟨rfl, rfl⟩ := hw_2
  obtain ⟨hP1_2, hK1_2, hD1_2⟩ := hB_2
  rw [ht_2] at hP1_2
  have hK1_2 := va_K.moved hvm_2.symm hK1_2
  obtain ⟨hP_2, hD_2⟩ := va_join (wr := [(h0, .inr (14, [.ref h1, .ref h2, .ref h3, .ref h4, .int 0, .ref h5, .ref h6, .ref h7, .ref h8, .ref h9, .ref h10, .ref h11, .ref h12, .int (-1), .int 0, .int 0, .int (-1), .int (-1)])), (h1, .inr (10, [.ref h13, .int 0, .int 0, .int 0])), (h13, .inl (k0, 200, .inl (fun _ => 0)))]) (w1 := []) hP hD [] [0, 1, 2] rfl rfl (by decide) (by decide) hk_2 hFc_2 hP1_2 hD1_2
  have hK_2 := (hK.sub (tys' := [(k0, .int)]) [0] rfl).app hK1_2
  have hK_2 : va_K (dC, dI) vwCl [(k0, .int)] s := hK_2
  have hP_2 : va_P (dC, dI) vwCl [(h0, .inr (14, [.ref h1, .ref h2, .ref h3, .ref h4, .int 0, .ref h5, .ref h6, .ref h7, .ref h8, .ref h9, .ref h10, .ref h11, .ref h12, .int (-1), .int 0, .int 0, .int (-1), .int (-1)])), (h1, .inr (10, [.ref h13, .int 0, .int 0, .int 0])), (h13, .inl (k0, 200, .inl (fun _ => 0)))] H_2 := hP_2
  have hD_2 : va_D A [(h0, .inr (14, [.ref h1, .ref h2, .ref h3, .ref h4, .int 0, .ref h5, .ref h6, .ref h7, .ref h8, .ref h9, .ref h10, .ref h11, .ref h12, .int (-1), .int 0, .int 0, .int (-1), .int (-1)])), (h1, .inr (10, [.ref h13, .int 0, .int 0, .int 0])), (h13, .inl (k0, 200, .inl (fun _ => 0)))] := hD_2
  clear hP hD hS hK hPc_2 hDc_2 hKc_2 hFc_2 hP1_2 hK1_2 hD1_2 hk_2 hz_2
  have hPc_3 := hP_2.sub (ws' := []) [] rfl
  have hDc_3 := hD_2.sub (ws' := []) [] (by decide) rfl
  have hKc_3 := hK_2.sub (tys' := []) [] rfl
  have hFc_3 := va_free (wc := []) hD_2 hS_2 hA [] rfl
  refine va_calli (va_runS (As := [.int (((w0.toUInt64 >>> ((0 : Int32).toInt64.toUInt64 &&& Int64.toUInt64 63)).toInt64).toInt32 &&& 255)]) (rest := []) ⟨hx, hb, hml, hown, ht⟩ (mt_X11_isTapeSign l dC dI (((w0.toUInt64 >>> ((0 : Int32).toInt64.toUInt64 &&& Int64.toUInt64 63)).toInt64).toInt32 &&& 255) H_2.size) (cwS 1 ht (goodS tw_862 tw_863 tw_236 gw_X11_isTapeSign) rfl rfl rfl (by decide +kernel) ⟨Nat.le_of_ble_eq_true rfl, Nat.le_of_ble_eq_true rfl⟩) ⟨fun a U g mk q => by obtain ⟨q0, q1, qP, qK, qD⟩ := q; exact ⟨q0, q1, qP, va_K.moved (u := U) (U := U.calling g mk a) (Vm.Alike.refl U.vm) qK, qD⟩, fun U hU hW => ⟨rfl, by rw [hU], by rw [hU]; exact hPc_3, va_K.moved hW.alike hKc_3, hDc_3.weaken (fun _ _ _ _ => trivial)⟩⟩ rfl rfl hl_1.1 rfl (lv_room (Nat.le_of_ble_eq_true rfl)) dX11_feed_29 ⟨Nat.le_of_ble_eq_true rfl, Nat.le_of_ble_eq_true rfl⟩) hS_2 (fun q _ h => hFc_3 q h) hFc_3 (fun r_3 u_3 t_3 H_3 locs_3 ht_3 hvm_3 hw_3 hB_3 hz_3 hk_3 hS_3 => ?_)
  rcases hw_3 with ⟨rfl, rfl, cc_3_0⟩ | ⟨rfl, rfl, cc_3_0, cc_3_1⟩ | ⟨rfl, rfl, cc_3_0, cc_3_1⟩
  · obtain ⟨hP1_3, hK1_3, hD1_3⟩ := hB_3
    rw [ht_3] at hP1_3
    have hK1_3 := va_K.moved hvm_3.symm hK1_3
    obtain ⟨hP_3, hD_3⟩ := va_join (wr := [(h0, .inr (14, [.ref h1, .ref h2, .ref h3, .ref h4, .int 0, .ref h5, .ref h6, .ref h7, .ref h8, .ref h9, .ref h10, .ref h11, .ref h12, .int (-1), .int 0, .int 0, .int (-1), .int (-1)])), (h1, .inr (10, [.ref h13, .int 0, .int 0, .int 0])), (h13, .inl (k0, 200, .inl (fun _ => 0)))]) (w1 := []) hP_2 hD_2 [] [0, 1, 2] rfl rfl (by decide) (by decide) hk_3 hFc_3 hP1_3 hD1_3
    have hK_3 := (hK_2.sub (tys' := [(k0, .int)]) [0] rfl).app hK1_3
    have hK_3 : va_K (dC, dI) vwCl [(k0, .int)] s := hK_3
    have hP_3 : va_P (dC, dI) vwCl [(h0, .inr (14, [.ref h1, .ref h2, .ref h3, .ref h4, .int 0, .ref h5, .ref h6, .ref h7, .ref h8, .ref h9, .ref h10, .ref h11, .ref h12, .int (-1), .int 0, .int 0, .int (-1), .int (-1)])), (h1, .inr (10, [.ref h13, .int 0, .int 0, .int 0])), (h13, .inl (k0, 200, .inl (fun _ => 0)))] H_3 := hP_3
    have hD_3 : va_D A [(h0, .inr (14, [.ref h1, .ref h2, .ref h3, .ref h4, .int 0, .ref h5, .ref h6, .ref h7, .ref h8, .ref h9, .ref h10, .ref h11, .ref h12, .int (-1), .int 0, .int 0, .int (-1), .int (-1)])), (h1, .inr (10, [.ref h13, .int 0, .int 0, .int 0])), (h13, .inl (k0, 200, .inl (fun _ => 0)))] := hD_3
    clear hP_2 hD_2 hS_2 hK_2 hPc_3 hDc_3 hKc_3 hFc_3 hP1_3 hK1_3 hD1_3 hk_3 hz_3
    refine lv_if_ne (tgt := 38) hx hb dX11_feed_32 (by decide) (fun c_ => absurd (by decide) c_) (fun _ => ?_)
    refine lv_bipush (v := (-4)) hx hb dX11_feed_35 (by decide) ?_
    have hP9 := hP_3.sub (ws' := []) [] rfl
    have hD9 := hD_3.sub (ws' := []) [] (by decide) rfl
    have hK9 := hK_3.sub (tys' := []) [] rfl
    refine W.widen (k := 0) (n := 0) (by decide) (by decide) ?_
    exact W.iret (v := (-4)) hx hb hr (fun t9 ht9 hW9 => ⟨⟨(-4), 0, rfl, (Or.inl ⟨rfl, rfl, (fun h => h.1 cc_3_0)⟩), ⟨by rw [ht9]; exact hP9, va_K.moved hW9.alike hK9, hD9⟩⟩, hS_3.F ht9⟩) hS_3.2.2 dX11_feed_37
  · obtain ⟨hP1_3, hK1_3, hD1_3⟩ := hB_3
    rw [ht_3] at hP1_3
    have hK1_3 := va_K.moved hvm_3.symm hK1_3
    obtain ⟨hP_3, hD_3⟩ := va_join (wr := [(h0, .inr (14, [.ref h1, .ref h2, .ref h3, .ref h4, .int 0, .ref h5, .ref h6, .ref h7, .ref h8, .ref h9, .ref h10, .ref h11, .ref h12, .int (-1), .int 0, .int 0, .int (-1), .int (-1)])), (h1, .inr (10, [.ref h13, .int 0, .int 0, .int 0])), (h13, .inl (k0, 200, .inl (fun _ => 0)))]) (w1 := []) hP_2 hD_2 [] [0, 1, 2] rfl rfl (by decide) (by decide) hk_3 hFc_3 hP1_3 hD1_3
    have hK_3 := (hK_2.sub (tys' := [(k0, .int)]) [0] rfl).app hK1_3
    have hK_3 : va_K (dC, dI) vwCl [(k0, .int)] s := hK_3
    have hP_3 : va_P (dC, dI) vwCl [(h0, .inr (14, [.ref h1, .ref h2, .ref h3, .ref h4, .int 0, .ref h5, .ref h6, .ref h7, .ref h8, .ref h9, .ref h10, .ref h11, .ref h12, .int (-1), .int 0, .int 0, .int (-1), .int (-1)])), (h1, .inr (10, [.ref h13, .int 0, .int 0, .int 0])), (h13, .inl (k0, 200, .inl (fun _ => 0)))] H_3 := hP_3
    have hD_3 : va_D A [(h0, .inr (14, [.ref h1, .ref h2, .ref h3, .ref h4, .int 0, .ref h5, .ref h6, .ref h7, .ref h8, .ref h9, .ref h10, .ref h11, .ref h12, .int (-1), .int 0, .int 0, .int (-1), .int (-1)])), (h1, .inr (10, [.ref h13, .int 0, .int 0, .int 0])), (h13, .inl (k0, 200, .inl (fun _ => 0)))] := hD_3
    clear hP_2 hD_2 hS_2 hK_2 hPc_3 hDc_3 hKc_3 hFc_3 hP1_3 hK1_3 hD1_3 hk_3 hz_3
    refine lv_if_ne (tgt := 38) hx hb dX11_feed_32 (by decide) (fun c_ => absurd (by decide) c_) (fun _ => ?_)
    refine lv_bipush (v := (-4)) hx hb dX11_feed_35 (by decide) ?_
    have hP9 := hP_3.sub (ws' := []) [] rfl
    have hD9 := hD_3.sub (ws' := []) [] (by decide) rfl
    have hK9 := hK_3.sub (tys' := []) [] rfl
    refine W.widen (k := 0) (n := 0) (by decide) (by decide) ?_
    exact W.iret (v := (-4)) hx hb hr (fun t9 ht9 hW9 => ⟨⟨(-4), 0, rfl, (Or.inl ⟨rfl, rfl, (fun h => h.2 cc_3_1)⟩), ⟨by rw [ht9]; exact hP9, va_K.moved hW9.alike hK9, hD9⟩⟩, hS_3.F ht9⟩) hS_3.2.2 dX11_feed_37
  · obtain ⟨hP1_3, hK1_3, hD1_3⟩ := hB_3
    rw [ht_3] at hP1_3
    have hK1_3 := va_K.moved hvm_3.symm hK1_3
    obtain ⟨hP_3, hD_3⟩ := va_join (wr := [(h0, .inr (14, [.ref h1, .ref h2, .ref h3, .ref h4, .int 0, .ref h5, .ref h6, .ref h7, .ref h8, .ref h9, .ref h10, .ref h11, .ref h12, .int (-1), .int 0, .int 0, .int (-1), .int (-1)])), (h1, .inr (10, [.ref h13, .int 0, .int 0, .int 0])), (h13, .inl (k0, 200, .inl (fun _ => 0)))]) (w1 := []) hP_2 hD_2 [] [0, 1, 2] rfl rfl (by decide) (by decide) hk_3 hFc_3 hP1_3 hD1_3
    have hK_3 := (hK_2.sub (tys' := [(k0, .int)]) [0] rfl).app hK1_3
    have hK_3 : va_K (dC, dI) vwCl [(k0, .int)] s := hK_3
    have hP_3 : va_P (dC, dI) vwCl [(h0, .inr (14, [.ref h1, .ref h2, .ref h3, .ref h4, .int 0, .ref h5, .ref h6, .ref h7, .ref h8, .ref h9, .ref h10, .ref h11, .ref h12, .int (-1), .int 0, .int 0, .int (-1), .int (-1)])), (h1, .inr (10, [.ref h13, .int 0, .int 0, .int 0])), (h13, .inl (k0, 200, .inl (fun _ => 0)))] H_3 := hP_3
    have hD_3 : va_D A [(h0, .inr (14, [.ref h1, .ref h2, .ref h3, .ref h4, .int 0, .ref h5, .ref h6, .ref h7, .ref h8, .ref h9, .ref h10, .ref h11, .ref h12, .int (-1), .int 0, .int 0, .int (-1), .int (-1)])), (h1, .inr (10, [.ref h13, .int 0, .int 0, .int 0])), (h13, .inl (k0, 200, .inl (fun _ => 0)))] := hD_3
    clear hP_2 hD_2 hS_2 hK_2 hPc_3 hDc_3 hKc_3 hFc_3 hP1_3 hK1_3 hD1_3 hk_3 hz_3
    refine lv_if_ne (tgt := 38) hx hb dX11_feed_32 (by decide) (fun _ => ?_) (fun c_ => absurd c_ (by decide))
    refine lv_iinc (v := 1) (lv' := [(4, .int 1), (0, .ref h0), (1, .int 1), (2, .long w0)]) hx hb dX11_feed_38 hl_1 (k := 0) rfl (by decide) (by decide) rfl (fun ls_4 hl_4 => ?_)
    clear hl_1
    refine lv_goto (tgt := 17) hx hb dX11_feed_41 (by decide) ?_
    refine lv_iload hx hb dX11_feed_17 (lv_at hl_4 0 rfl) ?_
    refine lv_iload_n hx hb dX11_feed_19 rfl (lv_at hl_4 2 rfl) ?_
    refine lv_icmp_ge (tgt := 44) hx hb dX11_feed_20 (by decide) (fun _ => ?_) (fun c_ => absurd (by decide) c_)
    refine lv_aload_n hx hb dX11_feed_44 rfl (lv_at hl_4 1 rfl) ?_
    refine va_get (D := (dC, dI)) (ci := 14) (v := .ref h1) (C := RX11) (T := TX11) (N := 18) hx hb ht inX11 hown hK_3 hP_3 0 rfl rfl 0 (by decide) (ht _ tw_800) (fun _ h9 => h9) rfl dX11_feed_45 ?_
    refine va_get (D := (dC, dI)) (ci := 10) (v := .int 0) (C := RX7) (T := TX7) (N := 4) hx hb ht inX7 hown hK_3 hP_3 1 rfl rfl 1 (by decide) (ht _ tw_278) (fun _ h9 => h9) rfl dX11_feed_48 ?_
    refine lv_iload_n hx hb dX11_feed_51 rfl (lv_at hl_4 2 rfl) ?_
    refine lv_iadd hx hb dX11_feed_52 ?_
    refine lv_topi (fun x_5 ex_5 => ?_)
    obtain rfl : x_5 = 1 := ex_5.trans (by decide)
    refine lv_sipush (v := 200) hx hb dX11_feed_53 (by decide) ?_
    refine lv_icmp_le (tgt := 62) hx hb dX11_feed_56 (by decide) (fun _ => ?_) (fun c_ => absurd (by decide) c_)
    refine lv_iload_n hx hb dX11_feed_62 rfl (lv_at hl_4 2 rfl) ?_
    refine lv_iconst (v := 1) hx hb dX11_feed_63 (by decide) ?_
    refine lv_isub hx hb dX11_feed_64 ?_
    refine lv_topi (fun x_6 ex_6 => ?_)
    obtain rfl : x_6 = 0 := ex_6.trans (by decide)
    refine lv_istore (lv' := [(4, .int 0), (0, .ref h0), (1, .int 1), (2, .long w0)]) hx hb dX11_feed_65 hl_4 (by decide) rfl (fun ls_7 hl_7 => ?_)
    clear hl_4
    refine lv_iload hx hb dX11_feed_67 (lv_at hl_7 0 rfl) ?_
    refine lv_if_lt (tgt := 91) hx hb dX11_feed_69 (by decide) (fun c_ => absurd c_ (by decide)) (fun _ => ?_)
    refine lv_aload_n hx hb dX11_feed_72 rfl (lv_at hl_7 1 rfl) ?_
    refine va_get (D := (dC, dI)) (ci := 14) (v := .ref h1) (C := RX11) (T := TX11) (N := 18) hx hb ht inX11 hown hK_3 hP_3 0 rfl rfl 0 (by decide) (ht _ tw_800) (fun _ h9 => h9) rfl dX11_feed_73 ?_
    refine lv_lload_n hx hb dX11_feed_76 rfl (lv_at hl_7 3 rfl) ?_
    refine lv_iload hx hb dX11_feed_77 (lv_at hl_7 0 rfl) ?_
    have hPc_8 := hP_3.sub (ws' := []) [] rfl
    have hDc_8 := hD_3.sub (ws' := []) [] (by decide) rfl
    have hKc_8 := hK_3.sub (tys' := []) [] rfl
    have hFc_8 := va_free (wc := []) hD_3 hS_3 hA [] rfl
    refine va_calli (va_runS (As := [.long w0, .int 0]) (rest := [.ref h1]) ⟨hx, hb, hml, hown, ht⟩ (mt_X11_byteOf l dC dI w0 H_3.size) (cwS 2 ht (goodS tw_859 tw_860 tw_236 gw_X11_byteOf) rfl rfl rfl (by decide +kernel) ⟨Nat.le_of_ble_eq_true rfl, Nat.le_of_ble_eq_true rfl⟩) ⟨fun a U g mk q => by obtain ⟨q0, q1, qP, qK, qD⟩ := q; exact ⟨q0, q1, qP, va_K.moved (u := U) (U := U.calling g mk a) (Vm.Alike.refl U.vm) qK, qD⟩, fun U hU hW => ⟨rfl, by rw [hU], by rw [hU]; exact hPc_8, va_K.moved hW.alike hKc_8, hDc_8.weaken (fun _ _ _ _ => trivial)⟩⟩ rfl rfl hl_7.1 rfl (lv_room (Nat.le_of_ble_eq_true rfl)) dX11_feed_79 ⟨Nat.le_of_ble_eq_true rfl, Nat.le_of_ble_eq_true rfl⟩) hS_3 (fun q _ h => hFc_8 q h) hFc_8 (fun r_8 u_8 t_8 H_8 locs_8 ht_8 hvm_8 hw_8 hB_8 hz_8 hk_8 hS_8 => ?_)
    obtain ⟨rfl, rfl⟩ := hw_8
    obtain ⟨hP1_8, hK1_8, hD1_8⟩ := hB_8
    rw [ht_8] at hP1_8
    have hK1_8 := va_K.moved hvm_8.symm hK1_8
    obtain ⟨hP_8, hD_8⟩ := va_join (wr := [(h0, .inr (14, [.ref h1, .ref h2, .ref h3, .ref h4, .int 0, .ref h5, .ref h6, .ref h7, .ref h8, .ref h9, .ref h10, .ref h11, .ref h12, .int (-1), .int 0, .int 0, .int (-1), .int (-1)])), (h1, .inr (10, [.ref h13, .int 0, .int 0, .int 0])), (h13, .inl (k0, 200, .inl (fun _ => 0)))]) (w1 := []) hP_3 hD_3 [] [0, 1, 2] rfl rfl (by decide) (by decide) hk_8 hFc_8 hP1_8 hD1_8
    have hK_8 := (hK_3.sub (tys' := [(k0, .int)]) [0] rfl).app hK1_8
    have hK_8 : va_K (dC, dI) vwCl [(k0, .int)] s := hK_8
    have hP_8 : va_P (dC, dI) vwCl [(h0, .inr (14, [.ref h1, .ref h2, .ref h3, .ref h4, .int 0, .ref h5, .ref h6, .ref h7, .ref h8, .ref h9, .ref h10, .ref h11, .ref h12, .int (-1), .int 0, .int 0, .int (-1), .int (-1)])), (h1, .inr (10, [.ref h13, .int 0, .int 0, .int 0])), (h13, .inl (k0, 200, .inl (fun _ => 0)))] H_8 := hP_8
    have hD_8 : va_D A [(h0, .inr (14, [.ref h1, .ref h2, .ref h3, .ref h4, .int 0, .ref h5, .ref h6, .ref h7, .ref h8, .ref h9, .ref h10, .ref h11, .ref h12, .int (-1), .int 0, .int 0, .int (-1), .int (-1)])), (h1, .inr (10, [.ref h13, .int 0, .int 0, .int 0])), (h13, .inl (k0, 200, .inl (fun _ => 0)))] := hD_8
    clear hP_3 hD_3 hS_3 hK_3 hPc_8 hDc_8 hKc_8 hFc_8 hP1_8 hK1_8 hD1_8 hk_8 hz_8
    have hPc_9 := hP_8.sub (ws' := [(h1, .inr (10, [.ref h13, .int 0, .int 0, .int 0])), (h13, .inl (k0, 200, .inl (fun _ => 0)))]) [1, 2] rfl
    have hDc_9 := hD_8.sub (ws' := [(h1, .inr (10, [.ref h13, .int 0, .int 0, .int 0])), (h13, .inl (k0, 200, .inl (fun _ => 0)))]) [1, 2] (by decide) rfl
    have hKc_9 := hK_8.sub (tys' := [(k0, .int)]) [0] rfl
    have hFc_9 := va_free (wc := [(h1, .inr (10, [.ref h13, .int 0, .int 0, .int 0])), (h13, .inl (k0, 200, .inl (fun _ => 0)))]) hD_8 hS_8 hA [1, 2] rfl
    refine va_callv (va_runV (As := [.int (((w0.toUInt64 >>> ((0 : Int32).toInt64.toUInt64 &&& Int64.toUInt64 63)).toInt64).toInt32 &&& 255)]) (rest := []) ⟨hx, hb, hml, hown, ht⟩ (mt_X7_add l dC dI h1 h13 k0 (((w0.toUInt64 >>> ((0 : Int32).toInt64.toUInt64 &&& Int64.toUInt64 63)).toInt64).toInt32 &&& 255) H_8.size) (cwV 1 ht (goodV tw_865 tw_866 tw_867 tw_237 gw_X7_add) rfl rfl rfl (by decide +kernel) ⟨Nat.le_of_ble_eq_true rfl, Nat.le_of_ble_eq_true rfl⟩) ⟨fun a U g mk q => by obtain ⟨q0, q1, qP, qK, qD⟩ := q; exact ⟨q0, q1, qP, va_K.moved (u := U) (U := U.calling g mk a) (Vm.Alike.refl U.vm) qK, qD⟩, va_recv hKc_9 hPc_9 (ci := 10) (q0 := 0) rfl rfl, fun U hU hW => ⟨rfl, by rw [hU], by rw [hU]; exact hPc_9, va_K.moved hW.alike hKc_9, hDc_9.weaken (fun _ _ _ _ => trivial)⟩⟩ rfl rfl hl_7.1 rfl (lv_room (Nat.le_of_ble_eq_true rfl)) dX11_feed_82 ⟨Nat.le_of_ble_eq_true rfl, Nat.le_of_ble_eq_true rfl⟩) hS_8 (fun q _ h => hFc_9 q h) hFc_9 (fun u_9 t_9 H_9 locs_9 ht_9 hvm_9 hw_9 hB_9 hz_9 hk_9 hS_9 => ?_)
    obtain rfl := hw_9
    obtain ⟨hP1_9, hK1_9, hD1_9⟩ := hB_9
    rw [ht_9] at hP1_9
    have hK1_9 := va_K.moved hvm_9.symm hK1_9
    obtain ⟨hP_9, hD_9⟩ := va_join (wr := [(h0, .inr (14, [.ref h1, .ref h2, .ref h3, .ref h4, .int 0, .ref h5, .ref h6, .ref h7, .ref h8, .ref h9, .ref h10, .ref h11, .ref h12, .int (-1), .int 0, .int 0, .int (-1), .int (-1)]))]) (w1 := [(h1, .inr (10, [.ref h13, .int 1, .int 0, .int 0])), (h13, .inl (k0, 200, .inl (upd (fun _ => 0) 0 (((w0.toUInt64 >>> ((0 : Int32).toInt64.toUInt64 &&& Int64.toUInt64 63)).toInt64).toInt32 &&& 255))))]) hP_8 hD_8 [1, 2] [0] rfl rfl (by decide) (by decide) hk_9 hFc_9 hP1_9 hD1_9
    have hK_9 := (hK_8.sub (tys' := []) [] rfl).app hK1_9
    have hK_9 : va_K (dC, dI) vwCl [(k0, .int)] s := hK_9
    have hP_9 : va_P (dC, dI) vwCl [(h0, .inr (14, [.ref h1, .ref h2, .ref h3, .ref h4, .int 0, .ref h5, .ref h6, .ref h7, .ref h8, .ref h9, .ref h10, .ref h11, .ref h12, .int (-1), .int 0, .int 0, .int (-1), .int (-1)])), (h1, .inr (10, [.ref h13, .int 1, .int 0, .int 0])), (h13, .inl (k0, 200, .inl (upd (fun _ => 0) 0 (((w0.toUInt64 >>> ((0 : Int32).toInt64.toUInt64 &&& Int64.toUInt64 63)).toInt64).toInt32 &&& 255))))] H_9 := hP_9
    have hD_9 : va_D A [(h0, .inr (14, [.ref h1, .ref h2, .ref h3, .ref h4, .int 0, .ref h5, .ref h6, .ref h7, .ref h8, .ref h9, .ref h10, .ref h11, .ref h12, .int (-1), .int 0, .int 0, .int (-1), .int (-1)])), (h1, .inr (10, [.ref h13, .int 1, .int 0, .int 0])), (h13, .inl (k0, 200, .inl (upd (fun _ => 0) 0 (((w0.toUInt64 >>> ((0 : Int32).toInt64.toUInt64 &&& Int64.toUInt64 63)).toInt64).toInt32 &&& 255))))] := hD_9
    clear hP_8 hD_8 hS_8 hK_8 hPc_9 hDc_9 hKc_9 hFc_9 hP1_9 hK1_9 hD1_9 hk_9 hz_9
    refine lv_iinc (v := (-1)) (lv' := [(4, .int (-1)), (0, .ref h0), (1, .int 1), (2, .long w0)]) hx hb dX11_feed_85 hl_7 (k := 0) rfl (by decide) (by decide) rfl (fun ls_10 hl_10 => ?_)
    clear hl_7
    refine lv_goto (tgt := 67) hx hb dX11_feed_88 (by decide) ?_
    refine lv_iload hx hb dX11_feed_67 (lv_at hl_10 0 rfl) ?_
    refine lv_if_lt (tgt := 91) hx hb dX11_feed_69 (by decide) (fun _ => ?_) (fun c_ => absurd (by decide) c_)
    refine lv_aload_n hx hb dX11_feed_91 rfl (lv_at hl_10 1 rfl) ?_
    refine va_get (D := (dC, dI)) (ci := 14) (v := .ref h1) (C := RX11) (T := TX11) (N := 18) hx hb ht inX11 hown hK_9 hP_9 0 rfl rfl 0 (by decide) (ht _ tw_800) (fun _ h9 => h9) rfl dX11_feed_92 ?_
    refine va_get (D := (dC, dI)) (ci := 10) (v := .int 1) (C := RX7) (T := TX7) (N := 4) hx hb ht inX7 hown hK_9 hP_9 1 rfl rfl 1 (by decide) (ht _ tw_278) (fun _ h9 => h9) rfl dX11_feed_95 ?_
    have hP9 := hP_9.sub (ws' := []) [] rfl
    have hD9 := hD_9.sub (ws' := []) [] (by decide) rfl
    have hK9 := hK_9.sub (tys' := []) [] rfl
    refine W.widen (k := 0) (n := 0) (by decide) (by decide) ?_
    exact W.iret (v := 1) hx hb hr (fun t9 ht9 hW9 => ⟨⟨1, 1, rfl, (Or.inr ⟨rfl, rfl, ⟨cc_3_0, cc_3_1⟩⟩), ⟨by rw [ht9]; exact hP9, va_K.moved hW9.alike hK9, hD9⟩⟩, hS_9.F ht9⟩) hS_9.2.2 dX11_feed_98
