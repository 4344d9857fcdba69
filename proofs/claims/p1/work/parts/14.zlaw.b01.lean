set_option maxHeartbeats 4000000 in
set_option maxRecDepth 100000 in
theorem mt_X12_in_v6 (l : Launch) (dC : Nat → ClassId) (dI : Nat → Nat → Nat) (sz : Nat) : Met l yX12_in (WS yX12_in cX12_in 3 (some (.boolean))) ({ frames := 0, cells := 0, slots := 0, locals := 0 }) (va_Pc [.int 1, .int 1, .int 8] (fun U => U.heap.size = sz ∧ va_P (dC, dI) vwCl [] U.heap ∧ va_K (dC, dI) vwCl [] U ∧ va_D (fun _ => True) [])) (va_Qi (fun (r : Int32) (u : Nat) => (u = 0 ∧ r = 1)) (fun (_ : Nat) (t : State) => (va_P (dC, dI) vwCl [] t.heap ∧ va_K (dC, dI) vwCl [] t ∧ va_D (va_A [] sz) [])) (va_A [] sz)) 0 0 (va_A [] sz) := by
  refine Met.ofW (cc := cX12_in) (maxL := 3) (ret := (some (.boolean))) (by decide) rfl ?_
  intro p e s m args below meth c s₁ B hml hv
  obtain ⟨rfl, hsz, hP, hK, hD0⟩ := hv
  have hx := B.exec
  have hb := B.bytes
  have hr := B.returns
  have hts := atoms_spec (ws := WS yX12_in cX12_in 3 (some (.boolean))) B.pre
  have ht : ∀ w ∈ TW, w.before _ s = true := fun w h => hts w (List.mem_cons_of_mem _ h)
  have hown : s.vm.findClass "PatternWorkshopModel" = some m.cls := findClass_of_methodNamed B.named
  have hlocks := B.notSynchronized
  subst hsz
  have hD := hD0.self (sz := s.heap.size)
  generalize hAe : va_A [] s.heap.size = A at hD ⊢
  have hA : ∀ q : Nat, s.heap.size ≤ q → A q := fun q h => by rw [← hAe]; exact Or.inr h
  have hS : va_S A s.heap s.heap [] := va_S.rf
  have hP : va_P (dC, dI) vwCl [] s.heap := hP
  have hl := lv_entry ([.int 1, .int 1, .int 8]) (n := 3) (Nat.le_of_ble_eq_true rfl)
  rw [lg_entry_eq]
  generalize (lg_sl ([.int 1, .int 1, .int 8]) ++ List.replicate (3 - (lg_sl ([.int 1, .int 1, .int 8])).length) Slot.unset).toArray = ls at hl ⊢
  have hl : lv_has ls 3 [(0, .int 1), (1, .int 1), (2, .int 8)] := hl
  clear hD0
  refine lv_iload_n hx hb dX12_in_0 rfl (lv_at hl 0 rfl) ?_
  refine lv_iload_n hx hb dX12_in_1 rfl (lv_at hl 1 rfl) ?_
  refine lv_icmp_lt (tgt := 14) hx hb dX12_in_2 (by decide) (fun c_ => absurd c_ (by decide)) (fun _ => ?_)
  refine lv_iload_n hx hb dX12_in_5 rfl (lv_at hl 0 rfl) ?_
  refine lv_iload_n hx hb dX12_in_6 rfl (lv_at hl 2 rfl) ?_
  refine lv_icmp_gt (tgt := 14) hx hb dX12_in_7 (by decide) (fun c_ => absurd c_ (by decide)) (fun _ => ?_)
  refine lv_iconst (v := 1) hx hb dX12_in_10 (by decide) ?_
  refine lv_goto (tgt := 15) hx hb dX12_in_11 (by decide) ?_
  have hP9 := hP.sub (ws' := []) [] rfl
  have hD9 := hD.sub (ws' := []) [] (by decide) rfl
  have hK9 := hK.sub (tys' := []) [] rfl
  refine W.widen (k := 0) (n := 0) (by decide) (by decide) ?_
  exact W.zret (v := 1) hx hb hr rfl (fun t9 ht9 hW9 => ⟨⟨1, 0, rfl, ⟨rfl, rfl⟩, ⟨by rw [ht9]; exact hP9, va_K.moved hW9.alike hK9, hD9⟩⟩, hS.F ht9⟩) hS.2.2 dX12_in_15
set_option maxHeartbeats 4000000 in
set_option maxRecDepth 100000 in
theorem mt_X12_in_v7 (l : Launch) (dC : Nat → ClassId) (dI : Nat → Nat → Nat) (p0 : Int32) (sz : Nat) : Met l yX12_in (WS yX12_in cX12_in 3 (some (.boolean))) ({ frames := 0, cells := 0, slots := 0, locals := 0 }) (va_Pc [.int p0, .int 32, .int 126] (fun U => U.heap.size = sz ∧ va_P (dC, dI) vwCl [] U.heap ∧ va_K (dC, dI) vwCl [] U ∧ va_D (fun _ => True) [])) (va_Qi (fun (r : Int32) (u : Nat) => (u = 0 ∧ r = 0 ∧ (p0 < 32)) ∨ (u = 1 ∧ r = 0 ∧ (¬ p0 < 32) ∧ (126 < p0)) ∨ (u = 2 ∧ r = 1 ∧ (¬ p0 < 32) ∧ (¬ 126 < p0))) (fun (_ : Nat) (t : State) => (va_P (dC, dI) vwCl [] t.heap ∧ va_K (dC, dI) vwCl [] t ∧ va_D (va_A [] sz) [])) (va_A [] sz)) 0 0 (va_A [] sz) := by
  refine Met.ofW (cc := cX12_in) (maxL := 3) (ret := (some (.boolean))) (by decide) rfl ?_
  intro p e s m args below meth c s₁ B hml hv
  obtain ⟨rfl, hsz, hP, hK, hD0⟩ := hv
  have hx := B.exec
  have hb := B.bytes
  have hr := B.returns
  have hts := atoms_spec (ws := WS yX12_in cX12_in 3 (some (.boolean))) B.pre
  have ht : ∀ w ∈ TW, w.before _ s = true := fun w h => hts w (List.mem_cons_of_mem _ h)
  have hown : s.vm.findClass "PatternWorkshopModel" = some m.cls := findClass_of_methodNamed B.named
  have hlocks := B.notSynchronized
  subst hsz
  have hD := hD0.self (sz := s.heap.size)
  generalize hAe : va_A [] s.heap.size = A at hD ⊢
  have hA : ∀ q : Nat, s.heap.size ≤ q → A q := fun q h => by rw [← hAe]; exact Or.inr h
  have hS : va_S A s.heap s.heap [] := va_S.rf
  have hP : va_P (dC, dI) vwCl [] s.heap := hP
  have hl := lv_entry ([.int p0, .int 32, .int 126]) (n := 3) (Nat.le_of_ble_eq_true rfl)
  rw [lg_entry_eq]
  generalize (lg_sl ([.int p0, .int 32, .int 126]) ++ List.replicate (3 - (lg_sl ([.int p0, .int 32, .int 126])).length) Slot.unset).toArray = ls at hl ⊢
  have hl : lv_has ls 3 [(0, .int p0), (1, .int 32), (2, .int 126)] := hl
  clear hD0
  refine lv_iload_n hx hb dX12_in_0 rfl (lv_at hl 0 rfl) ?_
  refine lv_iload_n hx hb dX12_in_1 rfl (lv_at hl 1 rfl) ?_
  refine lv_icmp_lt (tgt := 14) hx hb dX12_in_2 (by decide) (fun c_1 => ?_) (fun c_1 => ?_)
  · refine lv_iconst (v := 0) hx hb dX12_in_14 (by decide) ?_
    have hP9 := hP.sub (ws' := []) [] rfl
    have hD9 := hD.sub (ws' := []) [] (by decide) rfl
    have hK9 := hK.sub (tys' := []) [] rfl
    refine W.widen (k := 0) (n := 0) (by decide) (by decide) ?_
    exact W.zret (v := 0) hx hb hr rfl (fun t9 ht9 hW9 => ⟨⟨0, 0, rfl, (Or.inl ⟨rfl, rfl, c_1⟩), ⟨by rw [ht9]; exact hP9, va_K.moved hW9.alike hK9, hD9⟩⟩, hS.F ht9⟩) hS.2.2 dX12_in_15
  · refine lv_iload_n hx hb dX12_in_5 rfl (lv_at hl 0 rfl) ?_
    refine lv_iload_n hx hb dX12_in_6 rfl (lv_at hl 2 rfl) ?_
    refine lv_icmp_gt (tgt := 14) hx hb dX12_in_7 (by decide) (fun c_2 => ?_) (fun c_2 => ?_)
    · refine lv_iconst (v := 0) hx hb dX12_in_14 (by decide) ?_
      have hP9 := hP.sub (ws' := []) [] rfl
      have hD9 := hD.sub (ws' := []) [] (by decide) rfl
      have hK9 := hK.sub (tys' := []) [] rfl
      refine W.widen (k := 0) (n := 0) (by decide) (by decide) ?_
      exact W.zret (v := 0) hx hb hr rfl (fun t9 ht9 hW9 => ⟨⟨0, 1, rfl, (Or.inr (Or.inl ⟨rfl, rfl, c_1, c_2⟩)), ⟨by rw [ht9]; exact hP9, va_K.moved hW9.alike hK9, hD9⟩⟩, hS.F ht9⟩) hS.2.2 dX12_in_15
    · refine lv_iconst (v := 1) hx hb dX12_in_10 (by decide) ?_
      refine lv_goto (tgt := 15) hx hb dX12_in_11 (by decide) ?_
      have hP9 := hP.sub (ws' := []) [] rfl
      have hD9 := hD.sub (ws' := []) [] (by decide) rfl
      have hK9 := hK.sub (tys' := []) [] rfl
      refine W.widen (k := 0) (n := 0) (by decide) (by decide) ?_
      exact W.zret (v := 1) hx hb hr rfl (fun t9 ht9 hW9 => ⟨⟨1, 2, rfl, (Or.inr (Or.inr ⟨rfl, rfl, c_1, c_2⟩)), ⟨by rw [ht9]; exact hP9, va_K.moved hW9.alike hK9, hD9⟩⟩, hS.F ht9⟩) hS.2.2 dX12_in_15
def GM1 (w0 : Int64) : Prop := (¬ (((w0 >>> ((0 : Int32).toInt64 &&& 63)) &&& 255).toInt32) < 32) ∧ (¬ 126 < (((w0 >>> ((0 : Int32).toInt64 &&& 63)) &&& 255).toInt32))
set_option maxHeartbeats 4000000 in
set_option maxRecDepth 100000 in
theorem mt_X12_feed_v3 (l : Launch) (dC : Nat → ClassId) (dI : Nat → Nat → Nat) (h0 h1 h2 h3 h4 h5 h6 h7 h8 h9 h10 h11 h12 h13 h14 h15 h16 h17 h18 h19 h20 h21 h22 h23 h24 h25 h26 h27 h28 h29 h30 h31 h32 h33 h34 h35 h36 h37 h38 h39 h40 h41 h42 h43 h44 h45 h46 h47 h48 h49 h50 h51 h52 h53 h54 h55 h56 h57 h58 h59 h60 h61 h62 h63 h64 h65 h66 h67 h68 h69 h70 h71 h72 h73 h74 h75 h76 h77 h78 h79 h80 h81 h82 h83 h84 h85 h86 h87 h88 h89 h90 h91 h92 h93 h94 : Nat) (k0 : ClassId) (w0 : Int64) (sz : Nat) : Met l yX12_feed (WS yX12_feed cX12_feed 6 (some (.int))) ({ frames := 1, cells := 0, slots := 0, locals := 22 }) (va_Pc [.ref h0, .int 1, .long w0] (fun U => U.heap.size = sz ∧ va_P (dC, dI) vwCl [(h0, .inr (15, (.int 0 :: .int 0 :: .ref h1 :: .int 0 :: .int (-1) :: .ref h2 :: .ref h3 :: .ref h4 :: .ref h5 :: .ref h6 :: .ref h7 :: .ref h8 :: .ref h9 :: .ref h10 :: .ref h11 :: .ref h12 :: .ref h13 :: .ref h14 :: .ref h15 :: .ref h16 :: .ref h17 :: .ref h18 :: .ref h19 :: .ref h20 :: .ref h21 :: .ref h22 :: .ref h23 :: .ref h24 :: .ref h25 :: .ref h26 :: .ref h27 :: .int 0 :: .ref h28 :: .ref h29 :: .int 0 :: .int 0 :: .int 0 :: .int 0 :: .int 0 :: .int 0 :: .ref h30 :: .int 0 :: .ref h31 :: .ref h32 :: .ref h33 :: .ref h34 :: .ref h35 :: .ref h36 :: .ref h37 :: .ref h38 :: .int 0 :: .int 0 :: .int 0 :: .int 0 :: .ref h39 :: .ref h40 :: .ref h41 :: .int 0 :: .ref h42 :: .int 0 :: .ref h43 :: .int 0 :: .int 0 :: .ref h44 :: .ref h45 :: .ref h46 :: .int 0 :: .ref h47 :: .ref h48 :: .ref h49 :: .ref h50 :: .ref h51 :: .ref h52 :: .ref h53 :: .int 0 :: .ref h54 :: .int 0 :: .ref h55 :: .ref h56 :: .ref h57 :: .int 0 :: .ref h58 :: .ref h59 :: .ref h60 :: .ref h61 :: .int 0 :: .ref h62 :: .ref h63 :: .ref h64 :: .ref h65 :: .int 0 :: .int 0 :: .int 0 :: .int 0 :: .int 0 :: .int 0 :: .int 0 :: .int 0 :: .int 0 :: .ref h66 :: .int 0 :: .ref h67 :: .int 0 :: .int 0 :: .int 0 :: .int 0 :: .int 0 :: .ref h68 :: .int 0 :: .int 0 :: .ref h69 :: .int 0 :: .ref h70 :: .int 0 :: .ref h71 :: .ref h72 :: .int 0 :: .ref h73 :: .ref h74 :: .ref h75 :: .ref h76 :: .long 0 :: .int 0 :: .ref h77 :: .ref h78 :: .ref h79 :: .ref h80 :: .ref h81 :: .ref h82 :: .ref h83 :: .ref h84 :: .ref h85 :: .ref h86 :: .ref h87 :: .ref h88 :: .ref h89 :: .ref h90 :: .ref h91 :: .int 0 :: .ref h92 :: .ref h93 :: .ref h94 :: .int 0 :: []))), (h1, .inl (k0, 200, .inl (fun _ => 0)))] U.heap ∧ va_K (dC, dI) vwCl [(k0, .int)] U ∧ va_D (fun _ => True) [(h0, .inr (15, (.int 0 :: .int 0 :: .ref h1 :: .int 0 :: .int (-1) :: .ref h2 :: .ref h3 :: .ref h4 :: .ref h5 :: .ref h6 :: .ref h7 :: .ref h8 :: .ref h9 :: .ref h10 :: .ref h11 :: .ref h12 :: .ref h13 :: .ref h14 :: .ref h15 :: .ref h16 :: .ref h17 :: .ref h18 :: .ref h19 :: .ref h20 :: .ref h21 :: .ref h22 :: .ref h23 :: .ref h24 :: .ref h25 :: .ref h26 :: .ref h27 :: .int 0 :: .ref h28 :: .ref h29 :: .int 0 :: .int 0 :: .int 0 :: .int 0 :: .int 0 :: .int 0 :: .ref h30 :: .int 0 :: .ref h31 :: .ref h32 :: .ref h33 :: .ref h34 :: .ref h35 :: .ref h36 :: .ref h37 :: .ref h38 :: .int 0 :: .int 0 :: .int 0 :: .int 0 :: .ref h39 :: .ref h40 :: .ref h41 :: .int 0 :: .ref h42 :: .int 0 :: .ref h43 :: .int 0 :: .int 0 :: .ref h44 :: .ref h45 :: .ref h46 :: .int 0 :: .ref h47 :: .ref h48 :: .ref h49 :: .ref h50 :: .ref h51 :: .ref h52 :: .ref h53 :: .int 0 :: .ref h54 :: .int 0 :: .ref h55 :: .ref h56 :: .ref h57 :: .int 0 :: .ref h58 :: .ref h59 :: .ref h60 :: .ref h61 :: .int 0 :: .ref h62 :: .ref h63 :: .ref h64 :: .ref h65 :: .int 0 :: .int 0 :: .int 0 :: .int 0 :: .int 0 :: .int 0 :: .int 0 :: .int 0 :: .int 0 :: .ref h66 :: .int 0 :: .ref h67 :: .int 0 :: .int 0 :: .int 0 :: .int 0 :: .int 0 :: .ref h68 :: .int 0 :: .int 0 :: .ref h69 :: .int 0 :: .ref h70 :: .int 0 :: .ref h71 :: .ref h72 :: .int 0 :: .ref h73 :: .ref h74 :: .ref h75 :: .ref h76 :: .long 0 :: .int 0 :: .ref h77 :: .ref h78 :: .ref h79 :: .ref h80 :: .ref h81 :: .ref h82 :: .ref h83 :: .ref h84 :: .ref h85 :: .ref h86 :: .ref h87 :: .ref h88 :: .ref h89 :: .ref h90 :: .ref h91 :: .int 0 :: .ref h92 :: .ref h93 :: .ref h94 :: .int 0 :: []))), (h1, .inl (k0, 200, .inl (fun _ => 0)))])) (va_Qi (fun (r : Int32) (u : Nat) => (u = 0 ∧ r = (-4) ∧ (¬ GM1 w0)) ∨ (u = 1 ∧ r = 1 ∧ (GM1 w0))) (fun (_ : Nat) (t : State) => (va_P (dC, dI) vwCl [] t.heap ∧ va_K (dC, dI) vwCl [] t ∧ va_D (va_A [(h0, .inr (15, (.int 0 :: .int 0 :: .ref h1 :: .int 0 :: .int (-1) :: .ref h2 :: .ref h3 :: .ref h4 :: .ref h5 :: .ref h6 :: .ref h7 :: .ref h8 :: .ref h9 :: .ref h10 :: .ref h11 :: .ref h12 :: .ref h13 :: .ref h14 :: .ref h15 :: .ref h16 :: .ref h17 :: .ref h18 :: .ref h19 :: .ref h20 :: .ref h21 :: .ref h22 :: .ref h23 :: .ref h24 :: .ref h25 :: .ref h26 :: .ref h27 :: .int 0 :: .ref h28 :: .ref h29 :: .int 0 :: .int 0 :: .int 0 :: .int 0 :: .int 0 :: .int 0 :: .ref h30 :: .int 0 :: .ref h31 :: .ref h32 :: .ref h33 :: .ref h34 :: .ref h35 :: .ref h36 :: .ref h37 :: .ref h38 :: .int 0 :: .int 0 :: .int 0 :: .int 0 :: .ref h39 :: .ref h40 :: .ref h41 :: .int 0 :: .ref h42 :: .int 0 :: .ref h43 :: .int 0 :: .int 0 :: .ref h44 :: .ref h45 :: .ref h46 :: .int 0 :: .ref h47 :: .ref h48 :: .ref h49 :: .ref h50 :: .ref h51 :: .ref h52 :: .ref h53 :: .int 0 :: .ref h54 :: .int 0 :: .ref h55 :: .ref h56 :: .ref h57 :: .int 0 :: .ref h58 :: .ref h59 :: .ref h60 :: .ref h61 :: .int 0 :: .ref h62 :: .ref h63 :: .ref h64 :: .ref h65 :: .int 0 :: .int 0 :: .int 0 :: .int 0 :: .int 0 :: .int 0 :: .int 0 :: .int 0 :: .int 0 :: .ref h66 :: .int 0 :: .ref h67 :: .int 0 :: .int 0 :: .int 0 :: .int 0 :: .int 0 :: .ref h68 :: .int 0 :: .int 0 :: .ref h69 :: .int 0 :: .ref h70 :: .int 0 :: .ref h71 :: .ref h72 :: .int 0 :: .ref h73 :: .ref h74 :: .ref h75 :: .ref h76 :: .long 0 :: .int 0 :: .ref h77 :: .ref h78 :: .ref h79 :: .ref h80 :: .ref h81 :: .ref h82 :: .ref h83 :: .ref h84 :: .ref h85 :: .ref h86 :: .ref h87 :: .ref h88 :: .ref h89 :: .ref h90 :: .ref h91 :: .int 0 :: .ref h92 :: .ref h93 :: .ref h94 :: .int 0 :: []))), (h1, .inl (k0, 200, .inl (fun _ => 0)))] sz) [])) (va_A [(h0, .inr (15, (.int 0 :: .int 0 :: .ref h1 :: .int 0 :: .int (-1) :: .ref h2 :: .ref h3 :: .ref h4 :: .ref h5 :: .ref h6 :: .ref h7 :: .ref h8 :: .ref h9 :: .ref h10 :: .ref h11 :: .ref h12 :: .ref h13 :: .ref h14 :: .ref h15 :: .ref h16 :: .ref h17 :: .ref h18 :: .ref h19 :: .ref h20 :: .ref h21 :: .ref h22 :: .ref h23 :: .ref h24 :: .ref h25 :: .ref h26 :: .ref h27 :: .int 0 :: .ref h28 :: .ref h29 :: .int 0 :: .int 0 :: .int 0 :: .int 0 :: .int 0 :: .int 0 :: .ref h30 :: .int 0 :: .ref h31 :: .ref h32 :: .ref h33 :: .ref h34 :: .ref h35 :: .ref h36 :: .ref h37 :: .ref h38 :: .int 0 :: .int 0 :: .int 0 :: .int 0 :: .ref h39 :: .ref h40 :: .ref h41 :: .int 0 :: .ref h42 :: .int 0 :: .ref h43 :: .int 0 :: .int 0 :: .ref h44 :: .ref h45 :: .ref h46 :: .int 0 :: .ref h47 :: .ref h48 :: .ref h49 :: .ref h50 :: .ref h51 :: .ref h52 :: .ref h53 :: .int 0 :: .ref h54 :: .int 0 :: .ref h55 :: .ref h56 :: .ref h57 :: .int 0 :: .ref h58 :: .ref h59 :: .ref h60 :: .ref h61 :: .int 0 :: .ref h62 :: .ref h63 :: .ref h64 :: .ref h65 :: .int 0 :: .int 0 :: .int 0 :: .int 0 :: .int 0 :: .int 0 :: .int 0 :: .int 0 :: .int 0 :: .ref h66 :: .int 0 :: .ref h67 :: .int 0 :: .int 0 :: .int 0 :: .int 0 :: .int 0 :: .ref h68 :: .int 0 :: .int 0 :: .ref h69 :: .int 0 :: .ref h70 :: .int 0 :: .ref h71 :: .ref h72 :: .int 0 :: .ref h73 :: .ref h74 :: .ref h75 :: .ref h76 :: .long 0 :: .int 0 :: .ref h77 :: .ref h78 :: .ref h79 :: .ref h80 :: .ref h81 :: .ref h82 :: .ref h83 :: .ref h84 :: .ref h85 :: .ref h86 :: .ref h87 :: .ref h88 :: .ref h89 :: .ref h90 :: .ref h91 :: .int 0 :: .ref h92 :: .ref h93 :: .ref h94 :: .int 0 :: []))), (h1, .inl (k0, 200, .inl (fun _ => 0)))] sz)) 0 0 (va_A [(h0, .inr (15, (.int 0 :: .int 0 :: .ref h1 :: .int 0 :: .int (-1) :: .ref h2 :: .ref h3 :: .ref h4 :: .ref h5 :: .ref h6 :: .ref h7 :: .ref h8 :: .ref h9 :: .ref h10 :: .ref h11 :: .ref h12 :: .ref h13 :: .ref h14 :: .ref h15 :: .ref h16 :: .ref h17 :: .ref h18 :: .ref h19 :: .ref h20 :: .ref h21 :: .ref h22 :: .ref h23 :: .ref h24 :: .ref h25 :: .ref h26 :: .ref h27 :: .int 0 :: .ref h28 :: .ref h29 :: .int 0 :: .int 0 :: .int 0 :: .int 0 :: .int 0 :: .int 0 :: .ref h30 :: .int 0 :: .ref h31 :: .ref h32 :: .ref h33 :: .ref h34 :: .ref h35 :: .ref h36 :: .ref h37 :: .ref h38 :: .int 0 :: .int 0 :: .int 0 :: .int 0 :: .ref h39 :: .ref h40 :: .ref h41 :: .int 0 :: .ref h42 :: .int 0 :: .ref h43 :: .int 0 :: .int 0 :: .ref h44 :: .ref h45 :: .ref h46 :: .int 0 :: .ref h47 :: .ref h48 :: .ref h49 :: .ref h50 :: .ref h51 :: .ref h52 :: .ref h53 :: .int 0 :: .ref h54 :: .int 0 :: .ref h55 :: .ref h56 :: .ref h57 :: .int 0 :: .ref h58 :: .ref h59 :: .ref h60 :: .ref h61 :: .int 0 :: .ref h62 :: .ref h63 :: .ref h64 :: .ref h65 :: .int 0 :: .int 0 :: .int 0 :: .int 0 :: .int 0 :: .int 0 :: .int 0 :: .int 0 :: .int 0 :: .ref h66 :: .int 0 :: .ref h67 :: .int 0 :: .int 0 :: .int 0 :: .int 0 :: .int 0 :: .ref h68 :: .int 0 :: .int 0 :: .ref h69 :: .int 0 :: .ref h70 :: .int 0 :: .ref h71 :: .ref h72 :: .int 0 :: .ref h73 :: .ref h74 :: .ref h75 :: .ref h76 :: .long 0 :: .int 0 :: .ref h77 :: .ref h78 :: .ref h79 :: .ref h80 :: .ref h81 :: .ref h82 :: .ref h83 :: .ref h84 :: .ref h85 :: .ref h86 :: .ref h87 :: .ref h88 :: .ref h89 :: .ref h90 :: .ref h91 :: .int 0 :: .ref h92 :: .ref h93 :: .ref h94 :: .int 0 :: []))), (h1, .inl (k0, 200, .inl (fun _ => 0)))] sz) := by
  refine Met.ofW (cc := cX12_feed) (maxL := 6) (ret := (some (.int))) (by decide) rfl ?_
  intro p e s m args below meth c s₁ B hml hv
  obtain ⟨rfl, hsz, hP, hK, hD0⟩ := hv
  have hx := B.exec
  have hb := B.bytes
  have hr := B.returns
  have hts := atoms_spec (ws := WS yX12_feed cX12_feed 6 (some (.int))) B.pre
  have ht : ∀ w ∈ TW, w.before _ s = true := fun w h => hts w (List.mem_cons_of_mem _ h)
  have hown : s.vm.findClass "PatternWorkshopModel" = some m.cls := findClass_of_methodNamed B.named
  have hlocks := B.notSynchronized
  subst hsz
  have hD := hD0.self (sz := s.heap.size)
  generalize hAe : va_A [(h0, .inr (15, (.int 0 :: .int 0 :: .ref h1 :: .int 0 :: .int (-1) :: .ref h2 :: .ref h3 :: .ref h4 :: .ref h5 :: .ref h6 :: .ref h7 :: .ref h8 :: .ref h9 :: .ref h10 :: .ref h11 :: .ref h12 :: .ref h13 :: .ref h14 :: .ref h15 :: .ref h16 :: .ref h17 :: .ref h18 :: .ref h19 :: .ref h20 :: .ref h21 :: .ref h22 :: .ref h23 :: .ref h24 :: .ref h25 :: .ref h26 :: .ref h27 :: .int 0 :: .ref h28 :: .ref h29 :: .int 0 :: .int 0 :: .int 0 :: .int 0 :: .int 0 :: .int 0 :: .ref h30 :: .int 0 :: .ref h31 :: .ref h32 :: .ref h33 :: .ref h34 :: .ref h35 :: .ref h36 :: .ref h37 :: .ref h38 :: .int 0 :: .int 0 :: .int 0 :: .int 0 :: .ref h39 :: .ref h40 :: .ref h41 :: .int 0 :: .ref h42 :: .int 0 :: .ref h43 :: .int 0 :: .int 0 :: .ref h44 :: .ref h45 :: .ref h46 :: .int 0 :: .ref h47 :: .ref h48 :: .ref h49 :: .ref h50 :: .ref h51 :: .ref h52 :: .ref h53 :: .int 0 :: .ref h54 :: .int 0 :: .ref h55 :: .ref h56 :: .ref h57 :: .int 0 :: .ref h58 :: .ref h59 :: .ref h60 :: .ref h61 :: .int 0 :: .ref h62 :: .ref h63 :: .ref h64 :: .ref h65 :: .int 0 :: .int 0 :: .int 0 :: .int 0 :: .int 0 :: .int 0 :: .int 0 :: .int 0 :: .int 0 :: .ref h66 :: .int 0 :: .ref h67 :: .int 0 :: .int 0 :: .int 0 :: .int 0 :: .int 0 :: .ref h68 :: .int 0 :: .int 0 :: .ref h69 :: .int 0 :: .ref h70 :: .int 0 :: .ref h71 :: .ref h72 :: .int 0 :: .ref h73 :: .ref h74 :: .ref h75 :: .ref h76 :: .long 0 :: .int 0 :: .ref h77 :: .ref h78 :: .ref h79 :: .ref h80 :: .ref h81 :: .ref h82 :: .ref h83 :: .ref h84 :: .ref h85 :: .ref h86 :: .ref h87 :: .ref h88 :: .ref h89 :: .ref h90 :: .ref h91 :: .int 0 :: .ref h92 :: .ref h93 :: .ref h94 :: .int 0 :: []))), (h1, .inl (k0, 200, .inl (fun _ => 0)))] s.heap.size = A at hD ⊢
  have hA : ∀ q : Nat, s.heap.size ≤ q → A q := fun q h => by rw [← hAe]; exact Or.inr h
  have hS : va_S A s.heap s.heap [] := va_S.rf
  have hP : va_P (dC, dI) vwCl [(h0, .inr (15, (.int 0 :: .int 0 :: .ref h1 :: .int 0 :: .int (-1) :: .ref h2 :: .ref h3 :: .ref h4 :: .ref h5 :: .ref h6 :: .ref h7 :: .ref h8 :: .ref h9 :: .ref h10 :: .ref h11 :: .ref h12 :: .ref h13 :: .ref h14 :: .ref h15 :: .ref h16 :: .ref h17 :: .ref h18 :: .ref h19 :: .ref h20 :: .ref h21 :: .ref h22 :: .ref h23 :: .ref h24 :: .ref h25 :: .ref h26 :: .ref h27 :: .int 0 :: .ref h28 :: .ref h29 :: .int 0 :: .int 0 :: .int 0 :: .int 0 :: .int 0 :: .int 0 :: .ref h30 :: .int 0 :: .ref h31 :: .ref h32 :: .ref h33 :: .ref h34 :: .ref h35 :: .ref h36 :: .ref h37 :: .ref h38 :: .int 0 :: .int 0 :: .int 0 :: .int 0 :: .ref h39 :: .ref h40 :: .ref h41 :: .int 0 :: .ref h42 :: .int 0 :: .ref h43 :: .int 0 :: .int 0 :: .ref h44 :: .ref h45 :: .ref h46 :: .int 0 :: .ref h47 :: .ref h48 :: .ref h49 :: .ref h50 :: .ref h51 :: .ref h52 :: .ref h53 :: .int 0 :: .ref h54 :: .int 0 :: .ref h55 :: .ref h56 :: .ref h57 :: .int 0 :: .ref h58 :: .ref h59 :: .ref h60 :: .ref h61 :: .int 0 :: .ref h62 :: .ref h63 :: .ref h64 :: .ref h65 :: .int 0 :: .int 0 :: .int 0 :: .int 0 :: .int 0 :: .int 0 :: .int 0 :: .int 0 :: .int 0 :: .ref h66 :: .int 0 :: .ref h67 :: .int 0 :: .int 0 :: .int 0 :: .int 0 :: .int 0 :: .ref h68 :: .int 0 :: .int 0 :: .ref h69 :: .int 0 :: .ref h70 :: .int 0 :: .ref h71 :: .ref h72 :: .int 0 :: .ref h73 :: .ref h74 :: .ref h75 :: .ref h76 :: .long 0 :: .int 0 :: .ref h77 :: .ref h78 :: .ref h79 :: .ref h80 :: .ref h81 :: .ref h82 :: .ref h83 :: .ref h84 :: .ref h85 :: .ref h86 :: .ref h87 :: .ref h88 :: .ref h89 :: .ref h90 :: .ref h91 :: .int 0 :: .ref h92 :: .ref h93 :: .ref h94 :: .int 0 :: []))), (h1, .inl (k0, 200, .inl (fun _ => 0)))] s.heap := hP
  have hl := lv_entry ([.ref h0, .int 1, .long w0]) (n := 6) (Nat.le_of_ble_eq_true rfl)
  rw [lg_entry_eq]
  generalize (lg_sl ([.ref h0, .int 1, .long w0]) ++ List.replicate (6 - (lg_sl ([.ref h0, .int 1, .long w0])).length) Slot.unset).toArray = ls at hl ⊢
  have hl : lv_has ls 6 [(0, .ref h0), (1, .int 1), (2, .long w0)] := hl
  clear hD0
  refine lv_aload_n hx hb dX12_feed_0 rfl (lv_at hl 0 rfl) ?_
  refine lv_iconst (v := 0) hx hb dX12_feed_1 (by decide) ?_
  refine va_put (D := (dC, dI)) (ci := 15) (v := .int 0) (ty := .int) (C := RX12) (T := TX12) (N := 143) hx hb ht inX12 tyX12 tyX12_ok nmX12 hown hK hP hD hS 0 rfl rfl 0 (by decide) (ht _ tw_2140) (fun _ h9 => h9) rfl (by decide +kernel) rfl rfl (Nat.le_of_ble_eq_true rfl) dX12_feed_2 (fun H_1 locs_1 hP_1 hD_1 hS_1 => ?_)
  have hP_1 : va_P (dC, dI) vwCl [(h0, .inr (15, (.int 0 :: .int 0 :: .ref h1 :: .int 0 :: .int (-1) :: .ref h2 :: .ref h3 :: .ref h4 :: .ref h5 :: .ref h6 :: .ref h7 :: .ref h8 :: .ref h9 :: .ref h10 :: .ref h11 :: .ref h12 :: .ref h13 :: .ref h14 :: .ref h15 :: .ref h16 :: .ref h17 :: .ref h18 :: .ref h19 :: .ref h20 :: .ref h21 :: .ref h22 :: .ref h23 :: .ref h24 :: .ref h25 :: .ref h26 :: .ref h27 :: .int 0 :: .ref h28 :: .ref h29 :: .int 0 :: .int 0 :: .int 0 :: .int 0 :: .int 0 :: .int 0 :: .ref h30 :: .int 0 :: .ref h31 :: .ref h32 :: .ref h33 :: .ref h34 :: .ref h35 :: .ref h36 :: .ref h37 :: .ref h38 :: .int 0 :: .int 0 :: .int 0 :: .int 0 :: .ref h39 :: .ref h40 :: .ref h41 :: .int 0 :: .ref h42 :: .int 0 :: .ref h43 :: .int 0 :: .int 0 :: .ref h44 :: .ref h45 :: .ref h46 :: .int 0 :: .ref h47 :: .ref h48 :: .ref h49 :: .ref h50 :: .ref h51 :: .ref h52 :: .ref h53 :: .int 0 :: .ref h54 :: .int 0 :: .ref h55 :: .ref h56 :: .ref h57 :: .int 0 :: .ref h58 :: .ref h59 :: .ref h60 :: .ref h61 :: .int 0 :: .ref h62 :: .ref h63 :: .ref h64 :: .ref h65 :: .int 0 :: .int 0 :: .int 0 :: .int 0 :: .int 0 :: .int 0 :: .int 0 :: .int 0 :: .int 0 :: .ref h66 :: .int 0 :: .ref h67 :: .int 0 :: .int 0 :: .int 0 :: .int 0 :: .int 0 :: .ref h68 :: .int 0 :: .int 0 :: .ref h69 :: .int 0 :: .ref h70 :: .int 0 :: .ref h71 :: .ref h72 :: .int 0 :: .ref h73 :: .ref h74 :: .ref h75 :: .ref h76 :: .long 0 :: .int 0 :: .ref h77 :: .ref h78 :: .ref h79 :: .ref h80 :: .ref h81 :: .ref h82 :: .ref h83 :: .ref h84 :: .ref h85 :: .ref h86 :: .ref h87 :: .ref h88 :: .ref h89 :: .ref h90 :: .ref h91 :: .int 0 :: .ref h92 :: .ref h93 :: .ref h94 :: .int 0 :: []))), (h1, .inl (k0, 200, .inl (fun _ => 0)))] H_1 := hP_1
  have hD_1 : va_D A [(h0, .inr (15, (.int 0 :: .int 0 :: .ref h1 :: .int 0 :: .int (-1) :: .ref h2 :: .ref h3 :: .ref h4 :: .ref h5 :: .ref h6 :: .ref h7 :: .ref h8 :: .ref h9 :: .ref h10 :: .ref h11 :: .ref h12 :: .ref h13 :: .ref h14 :: .ref h15 :: .ref h16 :: .ref h17 :: .ref h18 :: .ref h19 :: .ref h20 :: .ref h21 :: .ref h22 :: .ref h23 :: .ref h24 :: .ref h25 :: .ref h26 :: .ref h27 :: .int 0 :: .ref h28 :: .ref h29 :: .int 0 :: .int 0 :: .int 0 :: .int 0 :: .int 0 :: .int 0 :: .ref h30 :: .int 0 :: .ref h31 :: .ref h32 :: .ref h33 :: .ref h34 :: .ref h35 :: .ref h36 :: .ref h37 :: .ref h38 :: .int 0 :: .int 0 :: .int 0 :: .int 0 :: .ref h39 :: .ref h40 :: .ref h41 :: .int 0 :: .ref h42 :: .int 0 :: .ref h43 :: .int 0 :: .int 0 :: .ref h44 :: .ref h45 :: .ref h46 :: .int 0 :: .ref h47 :: .ref h48 :: .ref h49 :: .ref h50 :: .ref h51 :: .ref h52 :: .ref h53 :: .int 0 :: .ref h54 :: .int 0 :: .ref h55 :: .ref h56 :: .ref h57 :: .int 0 :: .ref h58 :: .ref h59 :: .ref h60 :: .ref h61 :: .int 0 :: .ref h62 :: .ref h63 :: .ref h64 :: .ref h65 :: .int 0 :: .int 0 :: .int 0 :: .int 0 :: .int 0 :: .int 0 :: .int 0 :: .int 0 :: .int 0 :: .ref h66 :: .int 0 :: .ref h67 :: .int 0 :: .int 0 :: .int 0 :: .int 0 :: .int 0 :: .ref h68 :: .int 0 :: .int 0 :: .ref h69 :: .int 0 :: .ref h70 :: .int 0 :: .ref h71 :: .ref h72 :: .int 0 :: .ref h73 :: .ref h74 :: .ref h75 :: .ref h76 :: .long 0 :: .int 0 :: .ref h77 :: .ref h78 :: .ref h79 :: .ref h80 :: .ref h81 :: .ref h82 :: .ref h83 :: .ref h84 :: .ref h85 :: .ref h86 :: .ref h87 :: .ref h88 :: .ref h89 :: .ref h90 :: .ref h91 :: .int 0 :: .ref h92 :: .ref h93 :: .ref h94 :: .int 0 :: []))), (h1, .inl (k0, 200, .inl (fun _ => 0)))] := hD_1
  clear hP hD hS
  refine lv_iload_n hx hb dX12_feed_5 rfl (lv_at hl 1 rfl) ?_
  refine lv_iconst (v := 1) hx hb dX12_feed_6 (by decide) ?_
  refine lv_bipush (v := 8) hx hb dX12_feed_7 (by decide) ?_
  have hPc_2 := hP_1.sub (ws' := []) [] rfl
  have hDc_2 := hD_1.sub (ws' := []) [] (by decide) rfl
  have hKc_2 := hK.sub (tys' := []) [] rfl
  have hFc_2 := va_free (wc := []) hD_1 hS_1 hA [] rfl
  refine va_calli (va_runS (As := [.int 1, .int 1, .int 8]) (rest := []) ⟨hx, hb, hml, hown, ht⟩ (mt_X12_in_v6 l dC dI H_1.size) (cwS 3 ht (goodS tw_2574 tw_2575 tw_249 gw_X12_in) rfl rfl rfl (by decide +kernel) ⟨Nat.le_of_ble_eq_true rfl, Nat.le_of_ble_eq_true rfl⟩) ⟨fun a U g mk q => by obtain ⟨q0, q1, qP, qK, qD⟩ := q; exact ⟨q0, q1, qP, va_K.moved (u := U) (U := U.calling g mk a) (Vm.Alike.refl U.vm) qK, qD⟩, fun U hU hW => ⟨rfl, by rw [hU], by rw [hU]; exact hPc_2, va_K.moved hW.alike hKc_2, hDc_2.weaken (fun _ _ _ _ => trivial)⟩⟩ rfl rfl hl.1 rfl (lv_room (Nat.le_of_ble_eq_true rfl)) dX12_feed_9 ⟨Nat.le_of_ble_eq_true rfl, Nat.le_of_ble_eq_true rfl⟩) hS_1 (fun q _ h => hFc_2 q h) hFc_2 (fun r_2 u_2 t_2 H_2 locs_2 ht_2 hvm_2 hw_2 hB_2 hz_2 hk_2 hS_2 => ?_)
  obtain ⟨rfl, rfl⟩ := hw_2
  obtain ⟨hP1_2, hK1_2, hD1_2⟩ := hB_2
  rw [ht_2] at hP1_2
  have hK1_2 := va_K.moved hvm_2.symm hK1_2
  obtain ⟨hP_2, hD_2⟩ := va_join (wr := [(h0, .inr (15, (.int 0 :: .int 0 :: .ref h1 :: .int 0 :: .int (-1) :: .ref h2 :: .ref h3 :: .ref h4 :: .ref h5 :: .ref h6 :: .ref h7 :: .ref h8 :: .ref h9 :: .ref h10 :: .ref h11 :: .ref h12 :: .ref h13 :: .ref h14 :: .ref h15 :: .ref h16 :: .ref h17 :: .ref h18 :: .ref h19 :: .ref h20 :: .ref h21 :: .ref h22 :: .ref h23 :: .ref h24 :: .ref h25 :: .ref h26 :: .ref h27 :: .int 0 :: .ref h28 :: .ref h29 :: .int 0 :: .int 0 :: .int 0 :: .int 0 :: .int 0 :: .int 0 :: .ref h30 :: .int 0 :: .ref h31 :: .ref h32 :: .ref h33 :: .ref h34 :: .ref h35 :: .ref h36 :: .ref h37 :: .ref h38 :: .int 0 :: .int 0 :: .int 0 :: .int 0 :: .ref h39 :: .ref h40 :: .ref h41 :: .int 0 :: .ref h42 :: .int 0 :: .ref h43 :: .int 0 :: .int 0 :: .ref h44 :: .ref h45 :: .ref h46 :: .int 0 :: .ref h47 :: .ref h48 :: .ref h49 :: .ref h50 :: .ref h51 :: .ref h52 :: .ref h53 :: .int 0 :: .ref h54 :: .int 0 :: .ref h55 :: .ref h56 :: .ref h57 :: .int 0 :: .ref h58 :: .ref h59 :: .ref h60 :: .ref h61 :: .int 0 :: .ref h62 :: .ref h63 :: .ref h64 :: .ref h65 :: .int 0 :: .int 0 :: .int 0 :: .int 0 :: .int 0 :: .int 0 :: .int 0 :: .int 0 :: .int 0 :: .ref h66 :: .int 0 :: .ref h67 :: .int 0 :: .int 0 :: .int 0 :: .int 0 :: .int 0 :: .ref h68 :: .int 0 :: .int 0 :: .ref h69 :: .int 0 :: .ref h70 :: .int 0 :: .ref h71 :: .ref h72 :: .int 0 :: .ref h73 :: .ref h74 :: .ref h75 :: .ref h76 :: .long 0 :: .int 0 :: .ref h77 :: .ref h78 :: .ref h79 :: .ref h80 :: .ref h81 :: .ref h82 :: .ref h83 :: .ref h84 :: .ref h85 :: .ref h86 :: .ref h87 :: .ref h88 :: .ref h89 :: .ref h90 :: .ref h91 :: .int 0 :: .ref h92 :: .ref h93 :: .ref h94 :: .int 0 :: []))), (h1, .inl (k0, 200, .inl (fun _ => 0)))]) (w1 := []) hP_1 hD_1 [] [0, 1] rfl rfl (by decide) (by decide) hk_2 hFc_2 hP1_2 hD1_2
  have hK_2 := (hK.sub (tys' := [(k0, .int)]) [0] rfl).app hK1_2
  have hK_2 : va_K (dC, dI) vwCl [(k0, .int)] s := hK_2
  have hP_2 : va_P (dC, dI) vwCl [(h0, .inr (15, (.int 0 :: .int 0 :: .ref h1 :: .int 0 :: .int (-1) :: .ref h2 :: .ref h3 :: .ref h4 :: .ref h5 :: .ref h6 :: .ref h7 :: .ref h8 :: .ref h9 :: .ref h10 :: .ref h11 :: .ref h12 :: .ref h13 :: .ref h14 :: .ref h15 :: .ref h16 :: .ref h17 :: .ref h18 :: .ref h19 :: .ref h20 :: .ref h21 :: .ref h22 :: .ref h23 :: .ref h24 :: .ref h25 :: .ref h26 :: .ref h27 :: .int 0 :: .ref h28 :: .ref h29 :: .int 0 :: .int 0 :: .int 0 :: .int 0 :: .int 0 :: .int 0 :: .ref h30 :: .int 0 :: .ref h31 :: .ref h32 :: .ref h33 :: .ref h34 :: .ref h35 :: .ref h36 :: .ref h37 :: .ref h38 :: .int 0 :: .int 0 :: .int 0 :: .int 0 :: .ref h39 :: .ref h40 :: .ref h41 :: .int 0 :: .ref h42 :: .int 0 :: .ref h43 :: .int 0 :: .int 0 :: .ref h44 :: .ref h45 :: .ref h46 :: .int 0 :: .ref h47 :: .ref h48 :: .ref h49 :: .ref h50 :: .ref h51 :: .ref h52 :: .ref h53 :: .int 0 :: .ref h54 :: .int 0 :: .ref h55 :: .ref h56 :: .ref h57 :: .int 0 :: .ref h58 :: .ref h59 :: .ref h60 :: .ref h61 :: .int 0 :: .ref h62 :: .ref h63 :: .ref h64 :: .ref h65 :: .int 0 :: .int 0 :: .int 0 :: .int 0 :: .int 0 :: .int 0 :: .int 0 :: .int 0 :: .int 0 :: .ref h66 :: .int 0 :: .ref h67 :: .int 0 :: .int 0 :: .int 0 :: .int 0 :: .int 0 :: .ref h68 :: .int 0 :: .int 0 :: .ref h69 :: .int 0 :: .ref h70 :: .int 0 :: .ref h71 :: .ref h72 :: .int 0 :: .ref h73 :: .ref h74 :: .ref h75 :: .ref h76 :: .long 0 :: .int 0 :: .ref h77 :: .ref h78 :: .ref h79 :: .ref h80 :: .ref h81 :: .ref h82 :: .ref h83 :: .ref h84 :: .ref h85 :: .ref h86 :: .ref h87 :: .ref h88 :: .ref h89 :: .ref h90 :: .ref h91 :: .int 0 :: .ref h92 :: .ref h93 :: .ref h94 :: .int 0 :: []))), (h1, .inl (k0, 200, .inl (fun _ => 0)))] H_2 := hP_2
  have hD_2 : va_D A [(h0, .inr (15, (.int 0 :: .int 0 :: .ref h1 :: .int 0 :: .int (-1) :: .ref h2 :: .ref h3 :: .ref h4 :: .ref h5 :: .ref h6 :: .ref h7 :: .ref h8 :: .ref h9 :: .ref h10 :: .ref h11 :: .ref h12 :: .ref h13 :: .ref h14 :: .ref h15 :: .ref h16 :: .ref h17 :: .ref h18 :: .ref h19 :: .ref h20 :: .ref h21 :: .ref h22 :: .ref h23 :: .ref h24 :: .ref h25 :: .ref h26 :: .ref h27 :: .int 0 :: .ref h28 :: .ref h29 :: .int 0 :: .int 0 :: .int 0 :: .int 0 :: .int 0 :: .int 0 :: .ref h30 :: .int 0 :: .ref h31 :: .ref h32 :: .ref h33 :: .ref h34 :: .ref h35 :: .ref h36 :: .ref h37 :: .ref h38 :: .int 0 :: .int 0 :: .int 0 :: .int 0 :: .ref h39 :: .ref h40 :: .ref h41 :: .int 0 :: .ref h42 :: .int 0 :: .ref h43 :: .int 0 :: .int 0 :: .ref h44 :: .ref h45 :: .ref h46 :: .int 0 :: .ref h47 :: .ref h48 :: .ref h49 :: .ref h50 :: .ref h51 :: .ref h52 :: .ref h53 :: .int 0 :: .ref h54 :: .int 0 :: .ref h55 :: .ref h56 :: .ref h57 :: .int 0 :: .ref h58 :: .ref h59 :: .ref h60 :: .ref h61 :: .int 0 :: .ref h62 :: .ref h63 :: .ref h64 :: .ref h65 :: .int 0 :: .int 0 :: .int 0 :: .int 0 :: .int 0 :: .int 0 :: .int 0 :: .int 0 :: .int 0 :: .ref h66 :: .int 0 :: .ref h67 :: .int 0 :: .int 0 :: .int 0 :: .int 0 :: .int 0 :: .ref h68 :: .int 0 :: .int 0 :: .ref h69 :: .int 0 :: .ref h70 :: .int 0 :: .ref h71 :: .ref h72 :: .int 0 :: .ref h73 :: .ref h74 :: .ref h75 :: .ref h76 :: .long 0 :: .int 0 :: .ref h77 :: .ref h78 :: .ref h79 :: .ref h80 :: .ref h81 :: .ref h82 :: .ref h83 :: .ref h84 :: .ref h85 :: .ref h86 :: .ref h87 :: .ref h88 :: .ref h89 :: .ref h90 :: .ref h91 :: .int 0 :: .ref h92 :: .ref h93 :: .ref h94 :: .int 0 :: []))), (h1, .inl (k0, 200, .inl (fun _ => 0)))] := hD_2
  clear hP_1 hD_1 hS_1 hK hPc_2 hDc_2 hKc_2 hFc_2 hP1_2 hK1_2 hD1_2 hk_2 hz_2
  refine lv_istore (lv' := [(4, .int 1), (0, .ref h0), (1, .int 1), (2, .long w0)]) hx hb dX12_feed_12 hl (by decide) rfl (fun ls_3 hl_3 => ?_)
  clear hl
  refine lv_iconst (v := 0) hx hb dX12_feed_14 (by decide) ?_
  refine lv_istore (lv' := [(5, .int 0), (4, .int 1), (0, .ref h0), (1, .int 1), (2, .long w0)]) hx hb dX12_feed_15 hl_3 (by decide) rfl (fun ls_4 hl_4 => ?_)
  clear hl_3
  refine lv_iload hx hb dX12_feed_17 (lv_at hl_4 0 rfl) ?_
  refine lv_iload_n hx hb dX12_feed_19 rfl (lv_at hl_4 3 rfl) ?_
  refine lv_icmp_ge (tgt := 55) hx hb dX12_feed_20 (by decide) (fun c_ => absurd c_ (by decide)) (fun _ => ?_)
  refine lv_iload hx hb dX12_feed_23 (lv_at hl_4 1 rfl) ?_
  refine lv_if_eq (tgt := 55) hx hb dX12_feed_25 (by decide) (fun c_ => absurd c_ (by decide)) (fun _ => ?_)
  refine lv_lload_n hx hb dX12_feed_28 rfl (lv_at hl_4 4 rfl) ?_
  refine lv_bipush (v := 8) hx hb dX12_feed_29 (by decide) ?_
  refine lv_iload hx hb dX12_feed_31 (lv_at hl_4 0 rfl) ?_
  refine lv_imul hx hb dX12_feed_33 ?_
  refine lv_topi (fun x_5 ex_5 => ?_)
  obtain rfl : x_5 = 0 := ex_5.trans (by decide)
  refine lv_lshr (v := (w0 >>> ((0 : Int32).toInt64 &&& 63))) hx hb dX12_feed_34 rfl ?_
  refine lv_ldc2 hx hb hown (ht _ tw_2577) dX12_feed_35 ?_
  refine lv_land hx hb dX12_feed_38 ?_
  refine lv_l2i (v := ((w0 >>> ((0 : Int32).toInt64 &&& 63)) &&& 255).toInt32) hx hb dX12_feed_39 rfl ?_
  refine lv_bipush (v := 32) hx hb dX12_feed_40 (by decide) ?_
  refine lv_bipush (v := 126) hx hb dX12_feed_42 (by decide) ?_
  have hPc_6 := hP_2.sub (ws' := []) [] rfl
  have hDc_6 := hD_2.sub (ws' := []) [] (by decide) rfl
  have hKc_6 := hK_2.sub (tys' := []) [] rfl
  have hFc_6 := va_free (wc := []) hD_2 hS_2 hA [] rfl
  refine va_calli (va_runS (As := [.int ((w0 >>> ((0 : Int32).toInt64 &&& 63)) &&& 255).toInt32, .int 32, .int 126]) (rest := []) ⟨hx, hb, hml, hown, ht⟩ (mt_X12_in_v7 l dC dI (((w0 >>> ((0 : Int32).toInt64 &&& 63)) &&& 255).toInt32) H_2.size) (cwS 3 ht (goodS tw_2574 tw_2575 tw_249 gw_X12_in) rfl rfl rfl (by decide +kernel) ⟨Nat.le_of_ble_eq_true rfl, Nat.le_of_ble_eq_true rfl⟩) ⟨fun a U g mk q => by obtain ⟨q0, q1, qP, qK, qD⟩ := q; exact ⟨q0, q1, qP, va_K.moved (u := U) (U := U.calling g mk a) (Vm.Alike.refl U.vm) qK, qD⟩, fun U hU hW => ⟨rfl, by rw [hU], by rw [hU]; exact hPc_6, va_K.moved hW.alike hKc_6, hDc_6.weaken (fun _ _ _ _ => trivial)⟩⟩ rfl rfl hl_4.1 rfl (lv_room (Nat.le_of_ble_eq_true rfl)) dX12_feed_44 ⟨Nat.le_of_ble_eq_true rfl, Nat.le_of_ble_eq_true rfl⟩) hS_2 (fun q _ h => hFc_6 q h) hFc_6 (fun r_6 u_6 t_6 H_6 locs_6 ht_6 hvm_6 hw_6 hB_6 hz_6 hk_6 hS_6 => ?_)
  rcases hw_6 with ⟨rfl, rfl, cc_6_0⟩ | ⟨rfl, rfl, cc_6_0, cc_6_1⟩ | ⟨rfl, rfl, cc_6_0, cc_6_1⟩
  · obtain ⟨hP1_6, hK1_6, hD1_6⟩ := hB_6
    rw [ht_6] at hP1_6
    have hK1_6 := va_K.moved hvm_6.symm hK1_6
    obtain ⟨hP_6, hD_6⟩ := va_join (wr := [(h0, .inr (15, (.int 0 :: .int 0 :: .ref h1 :: .int 0 :: .int (-1) :: .ref h2 :: .ref h3 :: .ref h4 :: .ref h5 :: .ref h6 :: .ref h7 :: .ref h8 :: .ref h9 :: .ref h10 :: .ref h11 :: .ref h12 :: .ref h13 :: .ref h14 :: .ref h15 :: .ref h16 :: .ref h17 :: .ref h18 :: .ref h19 :: .ref h20 :: .ref h21 :: .ref h22 :: .ref h23 :: .ref h24 :: .ref h25 :: .ref h26 :: .ref h27 :: .int 0 :: .ref h28 :: .ref h29 :: .int 0 :: .int 0 :: .int 0 :: .int 0 :: .int 0 :: .int 0 :: .ref h30 :: .int 0 :: .ref h31 :: .ref h32 :: .ref h33 :: .ref h34 :: .ref h35 :: .ref h36 :: .ref h37 :: .ref h38 :: .int 0 :: .int 0 :: .int 0 :: .int 0 :: .ref h39 :: .ref h40 :: .ref h41 :: .int 0 :: .ref h42 :: .int 0 :: .ref h43 :: .int 0 :: .int 0 :: .ref h44 :: .ref h45 :: .ref h46 :: .int 0 :: .ref h47 :: .ref h48 :: .ref h49 :: .ref h50 :: .ref h51 :: .ref h52 :: .ref h53 :: .int 0 :: .ref h54 :: .int 0 :: .ref h55 :: .ref h56 :: .ref h57 :: .int 0 :: .ref h58 :: .ref h59 :: .ref h60 :: .ref h61 :: .int 0 :: .ref h62 :: .ref h63 :: .ref h64 :: .ref h65 :: .int 0 :: .int 0 :: .int 0 :: .int 0 :: .int 0 :: .int 0 :: .int 0 :: .int 0 :: .int 0 :: .ref h66 :: .int 0 :: .ref h67 :: .int 0 :: .int 0 :: .int 0 :: .int 0 :: .int 0 :: .ref h68 :: .int 0 :: .int 0 :: .ref h69 :: .int 0 :: .ref h70 :: .int 0 :: .ref h71 :: .ref h72 :: .int 0 :: .ref h73 :: .ref h74 :: .ref h75 :: .ref h76 :: .long 0 :: .int 0 :: .ref h77 :: .ref h78 :: .ref h79 :: .ref h80 :: .ref h81 :: .ref h82 :: .ref h83 :: .ref h84 :: .ref h85 :: .ref h86 :: .ref h87 :: .ref h88 :: .ref h89 :: .ref h90 :: .ref h91 :: .int 0 :: .ref h92 :: .ref h93 :: .ref h94 :: .int 0 :: []))), (h1, .inl (k0, 200, .inl (fun _ => 0)))]) (w1 := []) hP_2 hD_2 [] [0, 1] rfl rfl (by decide) (by decide) hk_6 hFc_6 hP1_6 hD1_6
    have hK_6 := (hK_2.sub (tys' := [(k0, .int)]) [0] rfl).app hK1_6
    have hK_6 : va_K (dC, dI) vwCl [(k0, .int)] s := hK_6
    have hP_6 : va_P (dC, dI) vwCl [(h0, .inr (15, (.int 0 :: .int 0 :: .ref h1 :: .int 0 :: .int (-1) :: .ref h2 :: .ref h3 :: .ref h4 :: .ref h5 :: .ref h6 :: .ref h7 :: .ref h8 :: .ref h9 :: .ref h10 :: .ref h11 :: .ref h12 :: .ref h13 :: .ref h14 :: .ref h15 :: .ref h16 :: .ref h17 :: .ref h18 :: .ref h19 :: .ref h20 :: .ref h21 :: .ref h22 :: .ref h23 :: .ref h24 :: .ref h25 :: .ref h26 :: .ref h27 :: .int 0 :: .ref h28 :: .ref h29 :: .int 0 :: .int 0 :: .int 0 :: .int 0 :: .int 0 :: .int 0 :: .ref h30 :: .int 0 :: .ref h31 :: .ref h32 :: .ref h33 :: .ref h34 :: .ref h35 :: .ref h36 :: .ref h37 :: .ref h38 :: .int 0 :: .int 0 :: .int 0 :: .int 0 :: .ref h39 :: .ref h40 :: .ref h41 :: .int 0 :: .ref h42 :: .int 0 :: .ref h43 :: .int 0 :: .int 0 :: .ref h44 :: .ref h45 :: .ref h46 :: .int 0 :: .ref h47 :: .ref h48 :: .ref h49 :: .ref h50 :: .ref h51 :: .ref h52 :: .ref h53 :: .int 0 :: .ref h54 :: .int 0 :: .ref h55 :: .ref h56 :: .ref h57 :: .int 0 :: .ref h58 :: .ref h59 :: .ref h60 :: .ref h61 :: .int 0 :: .ref h62 :: .ref h63 :: .ref h64 :: .ref h65 :: .int 0 :: .int 0 :: .int 0 :: .int 0 :: .int 0 :: .int 0 :: .int 0 :: .int 0 :: .int 0 :: .ref h66 :: .int 0 :: .ref h67 :: .int 0 :: .int 0 :: .int 0 :: .int 0 :: .int 0 :: .ref h68 :: .int 0 :: .int 0 :: .ref h69 :: .int 0 :: .ref h70 :: .int 0 :: .ref h71 :: .ref h72 :: .int 0 :: .ref h73 :: .ref h74 :: .ref h75 :: .ref h76 :: .long 0 :: .int 0 :: .ref h77 :: .ref h78 :: .ref h79 :: .ref h80 :: .ref h81 :: .ref h82 :: .ref h83 :: .ref h84 :: .ref h85 :: .ref h86 :: .ref h87 :: .ref h88 :: .ref h89 :: .ref h90 :: .ref h91 :: .int 0 :: .ref h92 :: .ref h93 :: .ref h94 :: .int 0 :: []))), (h1, .inl (k0, 200, .inl (fun _ => 0)))] H_6 := hP_6
    have hD_6 : va_D A [(h0, .inr (15, (.int 0 :: .int 0 :: .ref h1 :: .int 0 :: .int (-1) :: .ref h2 :: .ref h3 :: .ref h4 :: .ref h5 :: .ref h6 :: .ref h7 :: .ref h8 :: .ref h9 :: .ref h10 :: .ref h11 :: .ref h12 :: .ref h13 :: .ref h14 :: .ref h15 :: .ref h16 :: .ref h17 :: .ref h18 :: .ref h19 :: .ref h20 :: .ref h21 :: .ref h22 :: .ref h23 :: .ref h24 :: .ref h25 :: .ref h26 :: .ref h27 :: .int 0 :: .ref h28 :: .ref h29 :: .int 0 :: .int 0 :: .int 0 :: .int 0 :: .int 0 :: .int 0 :: .ref h30 :: .int 0 :: .ref h31 :: .ref h32 :: .ref h33 :: .ref h34 :: .ref h35 :: .ref h36 :: .ref h37 :: .ref h38 :: .int 0 :: .int 0 :: .int 0 :: .int 0 :: .ref h39 :: .ref h40 :: .ref h41 :: .int 0 :: .ref h42 :: .int 0 :: .ref h43 :: .int 0 :: .int 0 :: .ref h44 :: .ref h45 :: .ref h46 :: .int 0 :: .ref h47 :: .ref h48 :: .ref h49 :: .ref h50 :: .ref h51 :: .ref h52 :: .ref h53 :: .int 0 :: .ref h54 :: .int 0 :: .ref h55 :: .ref h56 :: .ref h57 :: .int 0 :: .ref h58 :: .ref h59 :: .ref h60 :: .ref h61 :: .int 0 :: .ref h62 :: .ref h63 :: .ref h64 :: .ref h65 :: .int 0 :: .int 0 :: .int 0 :: .int 0 :: .int 0 :: .int 0 :: .int 0 :: .int 0 :: .int 0 :: .ref h66 :: .int 0 :: .ref h67 :: .int 0 :: .int 0 :: .int 0 :: .int 0 :: .int 0 :: .ref h68 :: .int 0 :: .int 0 :: .ref h69 :: .int 0 :: .ref h70 :: .int 0 :: .ref h71 :: .ref h72 :: .int 0 :: .ref h73 :: .ref h74 :: .ref h75 :: .ref h76 :: .long 0 :: .int 0 :: .ref h77 :: .ref h78 :: .ref h79 :: .ref h80 :: .ref h81 :: .ref h82 :: .ref h83 :: .ref h84 :: .ref h85 :: .ref h86 :: .ref h87 :: .ref h88 :: .ref h89 :: .ref h90 :: .ref h91 :: .int 0 :: .ref h92 :: .ref h93 :: .ref h94 :: .int 0 :: []))), (h1, .inl (k0, 200, .inl (fun _ => 0)))] := hD_6
    clear hP_2 hD_2 hS_2 hK_2 hPc_6 hDc_6 hKc_6 hFc_6 hP1_6 hK1_6 hD1_6 hk_6 hz_6
    refine lv_istore (lv' := [(4, .int 0), (5, .int 0), (0, .ref h0), (1, .int 1), (2, .long w0)]) hx hb dX12_feed_47 hl_4 (by decide) rfl (fun ls_7 hl_7 => ?_)
    clear hl_4
    refine lv_iinc (v := 1) (lv' := [(5, .int 1), (4, .int 0), (0, .ref h0), (1, .int 1), (2, .long w0)]) hx hb dX12_feed_49 hl_7 (k := 1) rfl (by decide) (by decide) rfl (fun ls_8 hl_8 => ?_)
    clear hl_7
    refine lv_goto (tgt := 17) hx hb dX12_feed_52 (by decide) ?_
    refine lv_iload hx hb dX12_feed_17 (lv_at hl_8 0 rfl) ?_
    refine lv_iload_n hx hb dX12_feed_19 rfl (lv_at hl_8 3 rfl) ?_
    refine lv_icmp_ge (tgt := 55) hx hb dX12_feed_20 (by decide) (fun _ => ?_) (fun c_ => absurd (by decide) c_)
    refine lv_iload hx hb dX12_feed_55 (lv_at hl_8 1 rfl) ?_
    refine lv_if_ne (tgt := 63) hx hb dX12_feed_57 (by decide) (fun c_ => absurd (by decide) c_) (fun _ => ?_)
    refine lv_bipush (v := (-4)) hx hb dX12_feed_60 (by decide) ?_
    have hP9 := hP_6.sub (ws' := []) [] rfl
    have hD9 := hD_6.sub (ws' := []) [] (by decide) rfl
    have hK9 := hK_6.sub (tys' := []) [] rfl
    refine W.widen (k := 0) (n := 0) (by decide) (by decide) ?_
    exact W.iret (v := (-4)) hx hb hr (fun t9 ht9 hW9 => ⟨⟨(-4), 0, rfl, (Or.inl ⟨rfl, rfl, (fun h => h.1 cc_6_0)⟩), ⟨by rw [ht9]; exact hP9, va_K.moved hW9.alike hK9, hD9⟩⟩, hS_6.F ht9⟩) hS_6.2.2 dX12_feed_62
  · obtain ⟨hP1_6, hK1_6, hD1_6⟩ := hB_6
    rw [ht_6] at hP1_6
    have hK1_6 := va_K.moved hvm_6.symm hK1_6
    obtain ⟨hP_6, hD_6⟩ := va_join (wr := [(h0, .inr (15, (.int 0 :: .int 0 :: .ref h1 :: .int 0 :: .int (-1) :: .ref h2 :: .ref h3 :: .ref h4 :: .ref h5 :: .ref h6 :: .ref h7 :: .ref h8 :: .ref h9 :: .ref h10 :: .ref h11 :: .ref h12 :: .ref h13 :: .ref h14 :: .ref h15 :: .ref h16 :: .ref h17 :: .ref h18 :: .ref h19 :: .ref h20 :: .ref h21 :: .ref h22 :: .ref h23 :: .ref h24 :: .ref h25 :: .ref h26 :: .ref h27 :: .int 0 :: .ref h28 :: .ref h29 :: .int 0 :: .int 0 :: .int 0 :: .int 0 :: .int 0 :: .int 0 :: .ref h30 :: .int 0 :: .ref h31 :: .ref h32 :: .ref h33 :: .ref h34 :: .ref h35 :: .ref h36 :: .ref h37 :: .ref h38 :: .int 0 :: .int 0 :: .int 0 :: .int 0 :: .ref h39 :: .ref h40 :: .ref h41 :: .int 0 :: .ref h42 :: .int 0 :: .ref h43 :: .int 0 :: .int 0 :: .ref h44 :: .ref h45 :: .ref h46 :: .int 0 :: .ref h47 :: .ref h48 :: .ref h49 :: .ref h50 :: .ref h51 :: .ref h52 :: .ref h53 :: .int 0 :: .ref h54 :: .int 0 :: .ref h55 :: .ref h56 :: .ref h57 :: .int 0 :: .ref h58 :: .ref h59 :: .ref h60 :: .ref h61 :: .int 0 :: .ref h62 :: .ref h63 :: .ref h64 :: .ref h65 :: .int 0 :: .int 0 :: .int 0 :: .int 0 :: .int 0 :: .int 0 :: .int 0 :: .int 0 :: .int 0 :: .ref h66 :: .int 0 :: .ref h67 :: .int 0 :: .int 0 :: .int 0 :: .int 0 :: .int 0 :: .ref h68 :: .int 0 :: .int 0 :: .ref h69 :: .int 0 :: .ref h70 :: .int 0 :: .ref h71 :: .ref h72 :: .int 0 :: .ref h73 :: .ref h74 :: .ref h75 :: .ref h76 :: .long 0 :: .int 0 :: .ref h77 :: .ref h78 :: .ref h79 :: .ref h80 :: .ref h81 :: .ref h82 :: .ref h83 :: .ref h84 :: .ref h85 :: .ref h86 :: .ref h87 :: .ref h88 :: .ref h89 :: .ref h90 :: .ref h91 :: .int 0 :: .ref h92 :: .ref h93 :: .ref h94 :: .int 0 :: []))), (h1, .inl (k0, 200, .inl (fun _ => 0)))]) (w1 := []) hP_2 hD_2 [] [0, 1] rfl rfl (by decide) (by decide) hk_6 hFc_6 hP1_6 hD1_6
    have hK_6 := (hK_2.sub (tys' := [(k0, .int)]) [0] rfl).app hK1_6
    have hK_6 : va_K (dC, dI) vwCl [(k0, .int)] s := hK_6
    have hP_6 : va_P (dC, dI) vwCl [(h0, .inr (15, (.int 0 :: .int 0 :: .ref h1 :: .int 0 :: .int (-1) :: .ref h2 :: .ref h3 :: .ref h4 :: .ref h5 :: .ref h6 :: .ref h7 :: .ref h8 :: .ref h9 :: .ref h10 :: .ref h11 :: .ref h12 :: .ref h13 :: .ref h14 :: .ref h15 :: .ref h16 :: .ref h17 :: .ref h18 :: .ref h19 :: .ref h20 :: .ref h21 :: .ref h22 :: .ref h23 :: .ref h24 :: .ref h25 :: .ref h26 :: .ref h27 :: .int 0 :: .ref h28 :: .ref h29 :: .int 0 :: .int 0 :: .int 0 :: .int 0 :: .int 0 :: .int 0 :: .ref h30 :: .int 0 :: .ref h31 :: .ref h32 :: .ref h33 :: .ref h34 :: .ref h35 :: .ref h36 :: .ref h37 :: .ref h38 :: .int 0 :: .int 0 :: .int 0 :: .int 0 :: .ref h39 :: .ref h40 :: .ref h41 :: .int 0 :: .ref h42 :: .int 0 :: .ref h43 :: .int 0 :: .int 0 :: .ref h44 :: .ref h45 :: .ref h46 :: .int 0 :: .ref h47 :: .ref h48 :: .ref h49 :: .ref h50 :: .ref h51 :: .ref h52 :: .ref h53 :: .int 0 :: .ref h54 :: .int 0 :: .ref h55 :: .ref h56 :: .ref h57 :: .int 0 :: .ref h58 :: .ref h59 :: .ref h60 :: .ref h61 :: .int 0 :: .ref h62 :: .ref h63 :: .ref h64 :: .ref h65 :: .int 0 :: .int 0 :: .int 0 :: .int 0 :: .int 0 :: .int 0 :: .int 0 :: .int 0 :: .int 0 :: .ref h66 :: .int 0 :: .ref h67 :: .int 0 :: .int 0 :: .int 0 :: .int 0 :: .int 0 :: .ref h68 :: .int 0 :: .int 0 :: .ref h69 :: .int 0 :: .ref h70 :: .int 0 :: .ref h71 :: .ref h72 :: .int 0 :: .ref h73 :: .ref h74 :: .ref h75 :: .ref h76 :: .long 0 :: .int 0 :: .ref h77 :: .ref h78 :: .ref h79 :: .ref h80 :: .ref h81 :: .ref h82 :: .ref h83 :: .ref h84 :: .ref h85 :: .ref h86 :: .ref h87 :: .ref h88 :: .ref h89 :: .ref h90 :: .ref h91 :: .int 0 :: .ref h92 :: .ref h93 :: .ref h94 :: .int 0 :: []))), (h1, .inl (k0, 200, .inl (fun _ => 0)))] H_6 := hP_6
    have hD_6 : va_D A [(h0, .inr (15, (.int 0 :: .int 0 :: .ref h1 :: .int 0 :: .int (-1) :: .ref h2 :: .ref h3 :: .ref h4 :: .ref h5 :: .ref h6 :: .ref h7 :: .ref h8 :: .ref h9 :: .ref h10 :: .ref h11 :: .ref h12 :: .ref h13 :: .ref h14 :: .ref h15 :: .ref h16 :: .ref h17 :: .ref h18 :: .ref h19 :: .ref h20 :: .ref h21 :: .ref h22 :: .ref h23 :: .ref h24 :: .ref h25 :: .ref h26 :: .ref h27 :: .int 0 :: .ref h28 :: .ref h29 :: .int 0 :: .int 0 :: .int 0 :: .int 0 :: .int 0 :: .int 0 :: .ref h30 :: .int 0 :: .ref h31 :: .ref h32 :: .ref h33 :: .ref h34 :: .ref h35 :: .ref h36 :: .ref h37 :: .ref h38 :: .int 0 :: .int 0 :: .int 0 :: .int 0 :: .ref h39 :: .ref h40 :: .ref h41 :: .int 0 :: .ref h42 :: .int 0 :: .ref h43 :: .int 0 :: .int 0 :: .ref h44 :: .ref h45 :: .ref h46 :: .int 0 :: .ref h47 :: .ref h48 :: .ref h49 :: .ref h50 :: .ref h51 :: .ref h52 :: .ref h53 :: .int 0 :: .ref h54 :: .int 0 :: .ref h55 :: .ref h56 :: .ref h57 :: .int 0 :: .ref h58 :: .ref h59 :: .ref h60 :: .ref h61 :: .int 0 :: .ref h62 :: .ref h63 :: .ref h64 :: .ref h65 :: .int 0 :: .int 0 :: .int 0 :: .int 0 :: .int 0 :: .int 0 :: .int 0 :: .int 0 :: .int 0 :: .ref h66 :: .int 0 :: .ref h67 :: .int 0 :: .int 0 :: .int 0 :: .int 0 :: .int 0 :: .ref h68 :: .int 0 :: .int 0 :: .ref h69 :: .int 0 :: .ref h70 :: .int 0 :: .ref h71 :: .ref h72 :: .int 0 :: .ref h73 :: .ref h74 :: .ref h75 :: .ref h76 :: .long 0 :: .int 0 :: .ref h77 :: .ref h78 :: .ref h79 :: .ref h80 :: .ref h81 :: .ref h82 :: .ref h83 :: .ref h84 :: .ref h85 :: .ref h86 :: .ref h87 :: .ref h88 :: .ref h89 :: .ref h90 :: .ref h91 :: .int 0 :: .ref h92 :: .ref h93 :: .ref h94 :: .int 0 :: []))), (h1, .inl (k0, 200, .inl (fun _ => 0)))] := hD_6
    clear hP_2 hD_2 hS_2 hK_2 hPc_6 hDc_6 hKc_6 hFc_6 hP1_6 hK1_6 hD1_6 hk_6 hz_6
    refine lv_istore (lv' := [(4, .int 0), (5, .int 0), (0, .ref h0), (1, .int 1), (2, .long w0)]) hx hb dX12_feed_47 hl_4 (by decide) rfl (fun ls_9 hl_9 => ?_)
    clear hl_4
    refine lv_iinc (v := 1) (lv' := [(5, .int 1), (4, .int 0), (0, .ref h0), (1, .int 1), (2, .long w0)]) hx hb dX12_feed_49 hl_9 (k := 1) rfl (by decide) (by decide) rfl (fun ls_10 hl_10 => ?_)
    clear hl_9
    refine lv_goto (tgt := 17) hx hb dX12_feed_52 (by decide) ?_
    refine lv_iload hx hb dX12_feed_17 (lv_at hl_10 0 rfl) ?_
    refine lv_iload_n hx hb dX12_feed_19 rfl (lv_at hl_10 3 rfl) ?_
    refine lv_icmp_ge (tgt := 55) hx hb dX12_feed_20 (by decide) (fun _ => ?_) (fun c_ => absurd (by decide) c_)
    refine lv_iload hx hb dX12_feed_55 (lv_at hl_10 1 rfl) ?_
    refine lv_if_ne (tgt := 63) hx hb dX12_feed_57 (by decide) (fun c_ => absurd (by decide) c_) (fun _ => ?_)
    refine lv_bipush (v := (-4)) hx hb dX12_feed_60 (by decide) ?_
    have hP9 := hP_6.sub (ws' := []) [] rfl
    have hD9 := hD_6.sub (ws' := []) [] (by decide) rfl
    have hK9 := hK_6.sub (tys' := []) [] rfl
    refine W.widen (k := 0) (n := 0) (by decide) (by decide) ?_
    exact W.iret (v := (-4)) hx hb hr (fun t9 ht9 hW9 => ⟨⟨(-4), 0, rfl, (Or.inl ⟨rfl, rfl, (fun h => h.2 cc_6_1)⟩), ⟨by rw [ht9]; exact hP9, va_K.moved hW9.alike hK9, hD9⟩⟩, hS_6.F ht9⟩) hS_6.2.2 dX12_feed_62
  · obtain ⟨hP1_6, hK1_6, hD1_6⟩ := hB_6
    rw [ht_6] at hP1_6
    have hK1_6 := va_K.moved hvm_6.symm hK1_6
    obtain ⟨hP_6, hD_6⟩ := va_join (wr := [(h0, .inr (15, (.int 0 :: .int 0 :: .ref h1 :: .int 0 :: .int (-1) :: .ref h2 :: .ref h3 :: .ref h4 :: .ref h5 :: .ref h6 :: .ref h7 :: .ref h8 :: .ref h9 :: .ref h10 :: .ref h11 :: .ref h12 :: .ref h13 :: .ref h14 :: .ref h15 :: .ref h16 :: .ref h17 :: .ref h18 :: .ref h19 :: .ref h20 :: .ref h21 :: .ref h22 :: .ref h23 :: .ref h24 :: .ref h25 :: .ref h26 :: .ref h27 :: .int 0 :: .ref h28 :: .ref h29 :: .int 0 :: .int 0 :: .int 0 :: .int 0 :: .int 0 :: .int 0 :: .ref h30 :: .int 0 :: .ref h31 :: .ref h32 :: .ref h33 :: .ref h34 :: .ref h35 :: .ref h36 :: .ref h37 :: .ref h38 :: .int 0 :: .int 0 :: .int 0 :: .int 0 :: .ref h39 :: .ref h40 :: .ref h41 :: .int 0 :: .ref h42 :: .int 0 :: .ref h43 :: .int 0 :: .int 0 :: .ref h44 :: .ref h45 :: .ref h46 :: .int 0 :: .ref h47 :: .ref h48 :: .ref h49 :: .ref h50 :: .ref h51 :: .ref h52 :: .ref h53 :: .int 0 :: .ref h54 :: .int 0 :: .ref h55 :: .ref h56 :: .ref h57 :: .int 0 :: .ref h58 :: .ref h59 :: .ref h60 :: .ref h61 :: .int 0 :: .ref h62 :: .ref h63 :: .ref h64 :: .ref h65 :: .int 0 :: .int 0 :: .int 0 :: .int 0 :: .int 0 :: .int 0 :: .int 0 :: .int 0 :: .int 0 :: .ref h66 :: .int 0 :: .ref h67 :: .int 0 :: .int 0 :: .int 0 :: .int 0 :: .int 0 :: .ref h68 :: .int 0 :: .int 0 :: .ref h69 :: .int 0 :: .ref h70 :: .int 0 :: .ref h71 :: .ref h72 :: .int 0 :: .ref h73 :: .ref h74 :: .ref h75 :: .ref h76 :: .long 0 :: .int 0 :: .ref h77 :: .ref h78 :: .ref h79 :: .ref h80 :: .ref h81 :: .ref h82 :: .ref h83 :: .ref h84 :: .ref h85 :: .ref h86 :: .ref h87 :: .ref h88 :: .ref h89 :: .ref h90 :: .ref h91 :: .int 0 :: .ref h92 :: .ref h93 :: .ref h94 :: .int 0 :: []))), (h1, .inl (k0, 200, .inl (fun _ => 0)))]) (w1 := []) hP_2 hD_2 [] [0, 1] rfl rfl (by decide) (by decide) hk_6 hFc_6 hP1_6 hD1_6
    have hK_6 := (hK_2.sub (tys' := [(k0, .int)]) [0] rfl).app hK1_6
    have hK_6 : va_K (dC, dI) vwCl [(k0, .int)] s := hK_6
    have hP_6 : va_P (dC, dI) vwCl [(h0, .inr (15, (.int 0 :: .int 0 :: .ref h1 :: .int 0 :: .int (-1) :: .ref h2 :: .ref h3 :: .ref h4 :: .ref h5 :: .ref h6 :: .ref h7 :: .ref h8 :: .ref h9 :: .ref h10 :: .ref h11 :: .ref h12 :: .ref h13 :: .ref h14 :: .ref h15 :: .ref h16 :: .ref h17 :: .ref h18 :: .ref h19 :: .ref h20 :: .ref h21 :: .ref h22 :: .ref h23 :: .ref h24 :: .ref h25 :: .ref h26 :: .ref h27 :: .int 0 :: .ref h28 :: .ref h29 :: .int 0 :: .int 0 :: .int 0 :: .int 0 :: .int 0 :: .int 0 :: .ref h30 :: .int 0 :: .ref h31 :: .ref h32 :: .ref h33 :: .ref h34 :: .ref h35 :: .ref h36 :: .ref h37 :: .ref h38 :: .int 0 :: .int 0 :: .int 0 :: .int 0 :: .ref h39 :: .ref h40 :: .ref h41 :: .int 0 :: .ref h42 :: .int 0 :: .ref h43 :: .int 0 :: .int 0 :: .ref h44 :: .ref h45 :: .ref h46 :: .int 0 :: .ref h47 :: .ref h48 :: .ref h49 :: .ref h50 :: .ref h51 :: .ref h52 :: .ref h53 :: .int 0 :: .ref h54 :: .int 0 :: .ref h55 :: .ref h56 :: .ref h57 :: .int 0 :: .ref h58 :: .ref h59 :: .ref h60 :: .ref h61 :: .int 0 :: .ref h62 :: .ref h63 :: .ref h64 :: .ref h65 :: .int 0 :: .int 0 :: .int 0 :: .int 0 :: .int 0 :: .int 0 :: .int 0 :: .int 0 :: .int 0 :: .ref h66 :: .int 0 :: .ref h67 :: .int 0 :: .int 0 :: .int 0 :: .int 0 :: .int 0 :: .ref h68 :: .int 0 :: .int 0 :: .ref h69 :: .int 0 :: .ref h70 :: .int 0 :: .ref h71 :: .ref h72 :: .int 0 :: .ref h73 :: .ref h74 :: .ref h75 :: .ref h76 :: .long 0 :: .int 0 :: .ref h77 :: .ref h78 :: .ref h79 :: .ref h80 :: .ref h81 :: .ref h82 :: .ref h83 :: .ref h84 :: .ref h85 :: .ref h86 :: .ref h87 :: .ref h88 :: .ref h89 :: .ref h90 :: .ref h91 :: .int 0 :: .ref h92 :: .ref h93 :: .ref h94 :: .int 0 :: []))), (h1, .inl (k0, 200, .inl (fun _ => 0)))] H_6 := hP_6
    have hD_6 : va_D A [(h0, .inr (15, (.int 0 :: .int 0 :: .ref h1 :: .int 0 :: .int (-1) :: .ref h2 :: .ref h3 :: .ref h4 :: .ref h5 :: .ref h6 :: .ref h7 :: .ref h8 :: .ref h9 :: .ref h10 :: .ref h11 :: .ref h12 :: .ref h13 :: .ref h14 :: .ref h15 :: .ref h16 :: .ref h17 :: .ref h18 :: .ref h19 :: .ref h20 :: .ref h21 :: .ref h22 :: .ref h23 :: .ref h24 :: .ref h25 :: .ref h26 :: .ref h27 :: .int 0 :: .ref h28 :: .ref h29 :: .int 0 :: .int 0 :: .int 0 :: .int 0 :: .int 0 :: .int 0 :: .ref h30 :: .int 0 :: .ref h31 :: .ref h32 :: .ref h33 :: .ref h34 :: .ref h35 :: .ref h36 :: .ref h37 :: .ref h38 :: .int 0 :: .int 0 :: .int 0 :: .int 0 :: .ref h39 :: .ref h40 :: .ref h41 :: .int 0 :: .ref h42 :: .int 0 :: .ref h43 :: .int 0 :: .int 0 :: .ref h44 :: .ref h45 :: .ref h46 :: .int 0 :: .ref h47 :: .ref h48 :: .ref h49 :: .ref h50 :: .ref h51 :: .ref h52 :: .ref h53 :: .int 0 :: .ref h54 :: .int 0 :: .ref h55 :: .ref h56 :: .ref h57 :: .int 0 :: .ref h58 :: .ref h59 :: .ref h60 :: .ref h61 :: .int 0 :: .ref h62 :: .ref h63 :: .ref h64 :: .ref h65 :: .int 0 :: .int 0 :: .int 0 :: .int 0 :: .int 0 :: .int 0 :: .int 0 :: .int 0 :: .int 0 :: .ref h66 :: .int 0 :: .ref h67 :: .int 0 :: .int 0 :: .int 0 :: .int 0 :: .int 0 :: .ref h68 :: .int 0 :: .int 0 :: .ref h69 :: .int 0 :: .ref h70 :: .int 0 :: .ref h71 :: .ref h72 :: .int 0 :: .ref h73 :: .ref h74 :: .ref h75 :: .ref h76 :: .long 0 :: .int 0 :: .ref h77 :: .ref h78 :: .ref h79 :: .ref h80 :: .ref h81 :: .ref h82 :: .ref h83 :: .ref h84 :: .ref h85 :: .ref h86 :: .ref h87 :: .ref h88 :: .ref h89 :: .ref h90 :: .ref h91 :: .int 0 :: .ref h92 :: .ref h93 :: .ref h94 :: .int 0 :: []))), (h1, .inl (k0, 200, .inl (fun _ => 0)))] := hD_6
    clear hP_2 hD_2 hS_2 hK_2 hPc_6 hDc_6 hKc_6 hFc_6 hP1_6 hK1_6 hD1_6 hk_6 hz_6
    refine lv_istore (lv' := [(4, .int 1), (5, .int 0), (0, .ref h0), (1, .int 1), (2, .long w0)]) hx hb dX12_feed_47 hl_4 (by decide) rfl (fun ls_11 hl_11 => ?_)
    clear hl_4
    refine lv_iinc (v := 1) (lv' := [(5, .int 1), (4, .int 1), (0, .ref h0), (1, .int 1), (2, .long w0)]) hx hb dX12_feed_49 hl_11 (k := 1) rfl (by decide) (by decide) rfl (fun ls_12 hl_12 => ?_)
    clear hl_11
    refine lv_goto (tgt := 17) hx hb dX12_feed_52 (by decide) ?_
    refine lv_iload hx hb dX12_feed_17 (lv_at hl_12 0 rfl) ?_
    refine lv_iload_n hx hb dX12_feed_19 rfl (lv_at hl_12 3 rfl) ?_
    refine lv_icmp_ge (tgt := 55) hx hb dX12_feed_20 (by decide) (fun _ => ?_) (fun c_ => absurd (by decide) c_)
    refine lv_iload hx hb dX12_feed_55 (lv_at hl_12 1 rfl) ?_
    refine lv_if_ne (tgt := 63) hx hb dX12_feed_57 (by decide) (fun _ => ?_) (fun c_ => absurd c_ (by decide))
    refine lv_aload_n hx hb dX12_feed_63 rfl (lv_at hl_12 2 rfl) ?_
    refine va_get (D := (dC, dI)) (ci := 15) (v := .int 0) (C := RX12) (T := TX12) (N := 143) hx hb ht inX12 hown hK_6 hP_6 0 rfl rfl 3 (by decide) (ht _ tw_2143) (fun _ h9 => h9) rfl dX12_feed_64 ?_
    refine lv_iload_n hx hb dX12_feed_67 rfl (lv_at hl_12 3 rfl) ?_
    refine lv_iadd hx hb dX12_feed_68 ?_
    refine lv_topi (fun x_13 ex_13 => ?_)
    obtain rfl : x_13 = 1 := ex_13.trans (by decide)
    refine lv_sipush (v := 200) hx hb dX12_feed_69 (by decide) ?_
    refine lv_icmp_le (tgt := 78) hx hb dX12_feed_72 (by decide) (fun _ => ?_) (fun c_ => absurd (by decide) c_)
    refine lv_iload_n hx hb dX12_feed_78 rfl (lv_at hl_12 3 rfl) ?_
    refine lv_iconst (v := 1) hx hb dX12_feed_79 (by decide) ?_
    refine lv_isub hx hb dX12_feed_80 ?_
    refine lv_topi (fun x_14 ex_14 => ?_)
    obtain rfl : x_14 = 0 := ex_14.trans (by decide)
    refine lv_istore (lv' := [(5, .int 0), (4, .int 1), (0, .ref h0), (1, .int 1), (2, .long w0)]) hx hb dX12_feed_81 hl_12 (by decide) rfl (fun ls_15 hl_15 => ?_)
    clear hl_12
    refine lv_iload hx hb dX12_feed_83 (lv_at hl_15 0 rfl) ?_
    refine lv_if_lt (tgt := 125) hx hb dX12_feed_85 (by decide) (fun c_ => absurd c_ (by decide)) (fun _ => ?_)
    refine lv_aload_n hx hb dX12_feed_88 rfl (lv_at hl_15 2 rfl) ?_
    refine va_get (D := (dC, dI)) (ci := 15) (v := .ref h1) (C := RX12) (T := TX12) (N := 143) hx hb ht inX12 hown hK_6 hP_6 0 rfl rfl 2 (by decide) (ht _ tw_2142) (fun _ h9 => h9) rfl dX12_feed_89 ?_
    refine lv_aload_n hx hb dX12_feed_92 rfl (lv_at hl_15 2 rfl) ?_
    refine va_get (D := (dC, dI)) (ci := 15) (v := .int 0) (C := RX12) (T := TX12) (N := 143) hx hb ht inX12 hown hK_6 hP_6 0 rfl rfl 3 (by decide) (ht _ tw_2143) (fun _ h9 => h9) rfl dX12_feed_93 ?_
    refine lv_lload_n hx hb dX12_feed_96 rfl (lv_at hl_15 4 rfl) ?_
    refine lv_bipush (v := 8) hx hb dX12_feed_97 (by decide) ?_
    refine lv_iload hx hb dX12_feed_99 (lv_at hl_15 0 rfl) ?_
    refine lv_imul hx hb dX12_feed_101 ?_
    refine lv_topi (fun x_16 ex_16 => ?_)
    obtain rfl : x_16 = 0 := ex_16.trans (by decide)
    refine lv_lshr (v := (w0 >>> ((0 : Int32).toInt64 &&& 63))) hx hb dX12_feed_102 rfl ?_
    refine lv_ldc2 hx hb hown (ht _ tw_2577) dX12_feed_103 ?_
    refine lv_land hx hb dX12_feed_106 ?_
    refine lv_l2i (v := ((w0 >>> ((0 : Int32).toInt64 &&& 63)) &&& 255).toInt32) hx hb dX12_feed_107 rfl ?_
    refine va_iast hx hb hK_6 hP_6 hD_6 hS_6 1 0 rfl rfl (i := 0) (vpi (by decide)) dX12_feed_108 (fun H_17 locs_17 hP_17 hD_17 hS_17 => ?_)
    have hP_17 : va_P (dC, dI) vwCl [(h0, .inr (15, (.int 0 :: .int 0 :: .ref h1 :: .int 0 :: .int (-1) :: .ref h2 :: .ref h3 :: .ref h4 :: .ref h5 :: .ref h6 :: .ref h7 :: .ref h8 :: .ref h9 :: .ref h10 :: .ref h11 :: .ref h12 :: .ref h13 :: .ref h14 :: .ref h15 :: .ref h16 :: .ref h17 :: .ref h18 :: .ref h19 :: .ref h20 :: .ref h21 :: .ref h22 :: .ref h23 :: .ref h24 :: .ref h25 :: .ref h26 :: .ref h27 :: .int 0 :: .ref h28 :: .ref h29 :: .int 0 :: .int 0 :: .int 0 :: .int 0 :: .int 0 :: .int 0 :: .ref h30 :: .int 0 :: .ref h31 :: .ref h32 :: .ref h33 :: .ref h34 :: .ref h35 :: .ref h36 :: .ref h37 :: .ref h38 :: .int 0 :: .int 0 :: .int 0 :: .int 0 :: .ref h39 :: .ref h40 :: .ref h41 :: .int 0 :: .ref h42 :: .int 0 :: .ref h43 :: .int 0 :: .int 0 :: .ref h44 :: .ref h45 :: .ref h46 :: .int 0 :: .ref h47 :: .ref h48 :: .ref h49 :: .ref h50 :: .ref h51 :: .ref h52 :: .ref h53 :: .int 0 :: .ref h54 :: .int 0 :: .ref h55 :: .ref h56 :: .ref h57 :: .int 0 :: .ref h58 :: .ref h59 :: .ref h60 :: .ref h61 :: .int 0 :: .ref h62 :: .ref h63 :: .ref h64 :: .ref h65 :: .int 0 :: .int 0 :: .int 0 :: .int 0 :: .int 0 :: .int 0 :: .int 0 :: .int 0 :: .int 0 :: .ref h66 :: .int 0 :: .ref h67 :: .int 0 :: .int 0 :: .int 0 :: .int 0 :: .int 0 :: .ref h68 :: .int 0 :: .int 0 :: .ref h69 :: .int 0 :: .ref h70 :: .int 0 :: .ref h71 :: .ref h72 :: .int 0 :: .ref h73 :: .ref h74 :: .ref h75 :: .ref h76 :: .long 0 :: .int 0 :: .ref h77 :: .ref h78 :: .ref h79 :: .ref h80 :: .ref h81 :: .ref h82 :: .ref h83 :: .ref h84 :: .ref h85 :: .ref h86 :: .ref h87 :: .ref h88 :: .ref h89 :: .ref h90 :: .ref h91 :: .int 0 :: .ref h92 :: .ref h93 :: .ref h94 :: .int 0 :: []))), (h1, .inl (k0, 200, .inl (upd (fun _ => 0) 0 (((w0 >>> ((0 : Int32).toInt64 &&& 63)) &&& 255).toInt32))))] H_17 := hP_17
    have hD_17 : va_D A [(h0, .inr (15, (.int 0 :: .int 0 :: .ref h1 :: .int 0 :: .int (-1) :: .ref h2 :: .ref h3 :: .ref h4 :: .ref h5 :: .ref h6 :: .ref h7 :: .ref h8 :: .ref h9 :: .ref h10 :: .ref h11 :: .ref h12 :: .ref h13 :: .ref h14 :: .ref h15 :: .ref h16 :: .ref h17 :: .ref h18 :: .ref h19 :: .ref h20 :: .ref h21 :: .ref h22 :: .ref h23 :: .ref h24 :: .ref h25 :: .ref h26 :: .ref h27 :: .int 0 :: .ref h28 :: .ref h29 :: .int 0 :: .int 0 :: .int 0 :: .int 0 :: .int 0 :: .int 0 :: .ref h30 :: .int 0 :: .ref h31 :: .ref h32 :: .ref h33 :: .ref h34 :: .ref h35 :: .ref h36 :: .ref h37 :: .ref h38 :: .int 0 :: .int 0 :: .int 0 :: .int 0 :: .ref h39 :: .ref h40 :: .ref h41 :: .int 0 :: .ref h42 :: .int 0 :: .ref h43 :: .int 0 :: .int 0 :: .ref h44 :: .ref h45 :: .ref h46 :: .int 0 :: .ref h47 :: .ref h48 :: .ref h49 :: .ref h50 :: .ref h51 :: .ref h52 :: .ref h53 :: .int 0 :: .ref h54 :: .int 0 :: .ref h55 :: .ref h56 :: .ref h57 :: .int 0 :: .ref h58 :: .ref h59 :: .ref h60 :: .ref h61 :: .int 0 :: .ref h62 :: .ref h63 :: .ref h64 :: .ref h65 :: .int 0 :: .int 0 :: .int 0 :: .int 0 :: .int 0 :: .int 0 :: .int 0 :: .int 0 :: .int 0 :: .ref h66 :: .int 0 :: .ref h67 :: .int 0 :: .int 0 :: .int 0 :: .int 0 :: .int 0 :: .ref h68 :: .int 0 :: .int 0 :: .ref h69 :: .int 0 :: .ref h70 :: .int 0 :: .ref h71 :: .ref h72 :: .int 0 :: .ref h73 :: .ref h74 :: .ref h75 :: .ref h76 :: .long 0 :: .int 0 :: .ref h77 :: .ref h78 :: .ref h79 :: .ref h80 :: .ref h81 :: .ref h82 :: .ref h83 :: .ref h84 :: .ref h85 :: .ref h86 :: .ref h87 :: .ref h88 :: .ref h89 :: .ref h90 :: .ref h91 :: .int 0 :: .ref h92 :: .ref h93 :: .ref h94 :: .int 0 :: []))), (h1, .inl (k0, 200, .inl (upd (fun _ => 0) 0 (((w0 >>> ((0 : Int32).toInt64 &&& 63)) &&& 255).toInt32))))] := hD_17
    clear hP_6 hD_6 hS_6
    refine lv_aload_n hx hb dX12_feed_109 rfl (lv_at hl_15 2 rfl) ?_
    refine lv_dup hx hb dX12_feed_110 rfl ?_
    refine va_get (D := (dC, dI)) (ci := 15) (v := .int 0) (C := RX12) (T := TX12) (N := 143) hx hb ht inX12 hown hK_6 hP_17 0 rfl rfl 3 (by decide) (ht _ tw_2143) (fun _ h9 => h9) rfl dX12_feed_111 ?_
    refine lv_iconst (v := 1) hx hb dX12_feed_114 (by decide) ?_
    refine lv_iadd hx hb dX12_feed_115 ?_
    refine lv_topi (fun x_18 ex_18 => ?_)
    obtain rfl : x_18 = 1 := ex_18.trans (by decide)
    refine va_put (D := (dC, dI)) (ci := 15) (v := .int 1) (ty := .int) (C := RX12) (T := TX12) (N := 143) hx hb ht inX12 tyX12 tyX12_ok nmX12 hown hK_6 hP_17 hD_17 hS_17 0 rfl rfl 3 (by decide) (ht _ tw_2143) (fun _ h9 => h9) rfl (by decide +kernel) rfl rfl (Nat.le_of_ble_eq_true rfl) dX12_feed_116 (fun H_19 locs_19 hP_19 hD_19 hS_19 => ?_)
    have hP_19 : va_P (dC, dI) vwCl [(h0, .inr (15, (.int 0 :: .int 0 :: .ref h1 :: .int 1 :: .int (-1) :: .ref h2 :: .ref h3 :: .ref h4 :: .ref h5 :: .ref h6 :: .ref h7 :: .ref h8 :: .ref h9 :: .ref h10 :: .ref h11 :: .ref h12 :: .ref h13 :: .ref h14 :: .ref h15 :: .ref h16 :: .ref h17 :: .ref h18 :: .ref h19 :: .ref h20 :: .ref h21 :: .ref h22 :: .ref h23 :: .ref h24 :: .ref h25 :: .ref h26 :: .ref h27 :: .int 0 :: .ref h28 :: .ref h29 :: .int 0 :: .int 0 :: .int 0 :: .int 0 :: .int 0 :: .int 0 :: .ref h30 :: .int 0 :: .ref h31 :: .ref h32 :: .ref h33 :: .ref h34 :: .ref h35 :: .ref h36 :: .ref h37 :: .ref h38 :: .int 0 :: .int 0 :: .int 0 :: .int 0 :: .ref h39 :: .ref h40 :: .ref h41 :: .int 0 :: .ref h42 :: .int 0 :: .ref h43 :: .int 0 :: .int 0 :: .ref h44 :: .ref h45 :: .ref h46 :: .int 0 :: .ref h47 :: .ref h48 :: .ref h49 :: .ref h50 :: .ref h51 :: .ref h52 :: .ref h53 :: .int 0 :: .ref h54 :: .int 0 :: .ref h55 :: .ref h56 :: .ref h57 :: .int 0 :: .ref h58 :: .ref h59 :: .ref h60 :: .ref h61 :: .int 0 :: .ref h62 :: .ref h63 :: .ref h64 :: .ref h65 :: .int 0 :: .int 0 :: .int 0 :: .int 0 :: .int 0 :: .int 0 :: .int 0 :: .int 0 :: .int 0 :: .ref h66 :: .int 0 :: .ref h67 :: .int 0 :: .int 0 :: .int 0 :: .int 0 :: .int 0 :: .ref h68 :: .int 0 :: .int 0 :: .ref h69 :: .int 0 :: .ref h70 :: .int 0 :: .ref h71 :: .ref h72 :: .int 0 :: .ref h73 :: .ref h74 :: .ref h75 :: .ref h76 :: .long 0 :: .int 0 :: .ref h77 :: .ref h78 :: .ref h79 :: .ref h80 :: .ref h81 :: .ref h82 :: .ref h83 :: .ref h84 :: .ref h85 :: .ref h86 :: .ref h87 :: .ref h88 :: .ref h89 :: .ref h90 :: .ref h91 :: .int 0 :: .ref h92 :: .ref h93 :: .ref h94 :: .int 0 :: []))), (h1, .inl (k0, 200, .inl (upd (fun _ => 0) 0 (((w0 >>> ((0 : Int32).toInt64 &&& 63)) &&& 255).toInt32))))] H_19 := hP_19
    have hD_19 : va_D A [(h0, .inr (15, (.int 0 :: .int 0 :: .ref h1 :: .int 1 :: .int (-1) :: .ref h2 :: .ref h3 :: .ref h4 :: .ref h5 :: .ref h6 :: .ref h7 :: .ref h8 :: .ref h9 :: .ref h10 :: .ref h11 :: .ref h12 :: .ref h13 :: .ref h14 :: .ref h15 :: .ref h16 :: .ref h17 :: .ref h18 :: .ref h19 :: .ref h20 :: .ref h21 :: .ref h22 :: .ref h23 :: .ref h24 :: .ref h25 :: .ref h26 :: .ref h27 :: .int 0 :: .ref h28 :: .ref h29 :: .int 0 :: .int 0 :: .int 0 :: .int 0 :: .int 0 :: .int 0 :: .ref h30 :: .int 0 :: .ref h31 :: .ref h32 :: .ref h33 :: .ref h34 :: .ref h35 :: .ref h36 :: .ref h37 :: .ref h38 :: .int 0 :: .int 0 :: .int 0 :: .int 0 :: .ref h39 :: .ref h40 :: .ref h41 :: .int 0 :: .ref h42 :: .int 0 :: .ref h43 :: .int 0 :: .int 0 :: .ref h44 :: .ref h45 :: .ref h46 :: .int 0 :: .ref h47 :: .ref h48 :: .ref h49 :: .ref h50 :: .ref h51 :: .ref h52 :: .ref h53 :: .int 0 :: .ref h54 :: .int 0 :: .ref h55 :: .ref h56 :: .ref h57 :: .int 0 :: .ref h58 :: .ref h59 :: .ref h60 :: .ref h61 :: .int 0 :: .ref h62 :: .ref h63 :: .ref h64 :: .ref h65 :: .int 0 :: .int 0 :: .int 0 :: .int 0 :: .int 0 :: .int 0 :: .int 0 :: .int 0 :: .int 0 :: .ref h66 :: .int 0 :: .ref h67 :: .int 0 :: .int 0 :: .int 0 :: .int 0 :: .int 0 :: .ref h68 :: .int 0 :: .int 0 :: .ref h69 :: .int 0 :: .ref h70 :: .int 0 :: .ref h71 :: .ref h72 :: .int 0 :: .ref h73 :: .ref h74 :: .ref h75 :: .ref h76 :: .long 0 :: .int 0 :: .ref h77 :: .ref h78 :: .ref h79 :: .ref h80 :: .ref h81 :: .ref h82 :: .ref h83 :: .ref h84 :: .ref h85 :: .ref h86 :: .ref h87 :: .ref h88 :: .ref h89 :: .ref h90 :: .ref h91 :: .int 0 :: .ref h92 :: .ref h93 :: .ref h94 :: .int 0 :: []))), (h1, .inl (k0, 200, .inl (upd (fun _ => 0) 0 (((w0 >>> ((0 : Int32).toInt64 &&& 63)) &&& 255).toInt32))))] := hD_19
    clear hP_17 hD_17 hS_17
    refine lv_iinc (v := (-1)) (lv' := [(5, .int (-1)), (4, .int 1), (0, .ref h0), (1, .int 1), (2, .long w0)]) hx hb dX12_feed_119 hl_15 (k := 0) rfl (by decide) (by decide) rfl (fun ls_20 hl_20 => ?_)
    clear hl_15
    refine lv_goto (tgt := 83) hx hb dX12_feed_122 (by decide) ?_
    refine lv_iload hx hb dX12_feed_83 (lv_at hl_20 0 rfl) ?_
    refine lv_if_lt (tgt := 125) hx hb dX12_feed_85 (by decide) (fun _ => ?_) (fun c_ => absurd (by decide) c_)
    refine lv_aload_n hx hb dX12_feed_125 rfl (lv_at hl_20 2 rfl) ?_
    refine va_get (D := (dC, dI)) (ci := 15) (v := .int 1) (C := RX12) (T := TX12) (N := 143) hx hb ht inX12 hown hK_6 hP_19 0 rfl rfl 3 (by decide) (ht _ tw_2143) (fun _ h9 => h9) rfl dX12_feed_126 ?_
    have hP9 := hP_19.sub (ws' := []) [] rfl
    have hD9 := hD_19.sub (ws' := []) [] (by decide) rfl
    have hK9 := hK_6.sub (tys' := []) [] rfl
    refine W.widen (k := 0) (n := 0) (by decide) (by decide) ?_
    exact W.iret (v := 1) hx hb hr (fun t9 ht9 hW9 => ⟨⟨1, 1, rfl, (Or.inr ⟨rfl, rfl, ⟨cc_6_0, cc_6_1⟩⟩), ⟨by rw [ht9]; exact hP9, va_K.moved hW9.alike hK9, hD9⟩⟩, hS_19.F ht9⟩) hS_19.2.2 dX12_feed_129
set_option maxHeartbeats 4000000 in
set_option maxRecDepth 100000 in
theorem mt_X11_byteOf_v2 (l : Launch) (dC : Nat → ClassId) (dI : Nat → Nat → Nat) (w0 : Int64) (sz : Nat) : Met l yX11_byteOf (WS yX11_byteOf cX11_byteOf 3 (some (.int))) ({ frames := 0, cells := 0, slots := 0, locals := 0 }) (va_Pc [.long w0, .int 1] (fun U => U.heap.size = sz ∧ va_P (dC, dI) vwCl [] U.heap ∧ va_K (dC, dI) vwCl [] U ∧ va_D (fun _ => True) [])) (va_Qi (fun (r : Int32) (u : Nat) => (u = 0 ∧ r = (((w0.toUInt64 >>> ((8 : Int32).toInt64.toUInt64 &&& Int64.toUInt64 63)).toInt64).toInt32 &&& 255))) (fun (_ : Nat) (t : State) => (va_P (dC, dI) vwCl [] t.heap ∧ va_K (dC, dI) vwCl [] t ∧ va_D (va_A [] sz) [])) (va_A [] sz)) 0 0 (va_A [] sz) := by
  refine Met.ofW (cc := cX11_byteOf) (maxL := 3) (ret := (some (.int))) (by decide) rfl ?_
  intro p e s m args below meth c s₁ B hml hv
  obtain ⟨rfl, hsz, hP, hK, hD0⟩ := hv
  have hx := B.exec
  have hb := B.bytes
  have hr := B.returns
  have hts := atoms_spec (ws := WS yX11_byteOf cX11_byteOf 3 (some (.int))) B.pre
  have ht : ∀ w ∈ TW, w.before _ s = true := fun w h => hts w (List.mem_cons_of_mem _ h)
  have hown : s.vm.findClass "PatternWorkshop" = some m.cls := findClass_of_methodNamed B.named
  have hlocks := B.notSynchronized
  subst hsz
  have hD := hD0.self (sz := s.heap.size)
  generalize hAe : va_A [] s.heap.size = A at hD ⊢
  have hA : ∀ q : Nat, s.heap.size ≤ q → A q := fun q h => by rw [← hAe]; exact Or.inr h
  have hS : va_S A s.heap s.heap [] := va_S.rf
  have hP : va_P (dC, dI) vwCl [] s.heap := hP
  have hl := lv_entry ([.long w0, .int 1]) (n := 3) (Nat.le_of_ble_eq_true rfl)
  rw [lg_entry_eq]
  generalize (lg_sl ([.long w0, .int 1]) ++ List.replicate (3 - (lg_sl ([.long w0, .int 1])).length) Slot.unset).toArray = ls at hl ⊢
  have hl : lv_has ls 3 [(0, .long w0), (2, .int 1)] := hl
  clear hD0
  refine lv_lload_n hx hb dX11_byteOf_0 rfl (lv_at hl 0 rfl) ?_
  refine lv_bipush (v := 8) hx hb dX11_byteOf_1 (by decide) ?_
  refine lv_iload_n hx hb dX11_byteOf_3 rfl (lv_at hl 1 rfl) ?_
  refine lv_imul hx hb dX11_byteOf_4 ?_
  refine lv_topi (fun x_1 ex_1 => ?_)
  obtain rfl : x_1 = 8 := ex_1.trans (by decide)
  refine lv_lushr (v := (w0.toUInt64 >>> ((8 : Int32).toInt64.toUInt64 &&& Int64.toUInt64 63)).toInt64) hx hb dX11_byteOf_5 rfl ?_
  refine lv_l2i (v := ((w0.toUInt64 >>> ((8 : Int32).toInt64.toUInt64 &&& Int64.toUInt64 63)).toInt64).toInt32) hx hb dX11_byteOf_6 rfl ?_
  refine lv_sipush (v := 255) hx hb dX11_byteOf_7 (by decide) ?_
  refine lv_iand hx hb dX11_byteOf_10 ?_
  have hP9 := hP.sub (ws' := []) [] rfl
  have hD9 := hD.sub (ws' := []) [] (by decide) rfl
  have hK9 := hK.sub (tys' := []) [] rfl
  refine W.widen (k := 0) (n := 0) (by decide) (by decide) ?_
  exact W.iret (v := (((w0.toUInt64 >>> ((8 : Int32).toInt64.toUInt64 &&& Int64.toUInt64 63)).toInt64).toInt32 &&& 255)) hx hb hr (fun t9 ht9 hW9 => ⟨⟨(((w0.toUInt64 >>> ((8 : Int32).toInt64.toUInt64 &&& Int64.toUInt64 63)).toInt64).toInt32 &&& 255), 0, rfl, ⟨rfl, rfl⟩, ⟨by rw [ht9]; exact hP9, va_K.moved hW9.alike hK9, hD9⟩⟩, hS.F ht9⟩) hS.2.2 dX11_byteOf_11
set_option maxHeartbeats 4000000 in
set_option maxRecDepth 100000 in
theorem mt_X7_add_v2 (l : Launch) (dC : Nat → ClassId) (dI : Nat → Nat → Nat) (h0 h1 : Nat) (k0 : ClassId) (p0 p1 : Int32) (sz : Nat) : Met l yX7_add (WS yX7_add cX7_add 2 none) ({ frames := 0, cells := 0, slots := 0, locals := 0 }) (va_Pc [.ref h0, .int p0] (fun U => U.heap.size = sz ∧ va_P (dC, dI) vwCl [(h0, .inr (10, [.ref h1, .int 1, .int 0, .int 0])), (h1, .inl (k0, 200, .inl (upd (fun _ => 0) 0 p1)))] U.heap ∧ va_K (dC, dI) vwCl [(k0, .int)] U ∧ va_D (fun _ => True) [(h0, .inr (10, [.ref h1, .int 1, .int 0, .int 0])), (h1, .inl (k0, 200, .inl (upd (fun _ => 0) 0 p1)))])) (va_Qv (fun (u : Nat) => (u = 0)) (fun (_ : Nat) (t : State) => (va_P (dC, dI) vwCl [(h0, .inr (10, [.ref h1, .int 2, .int 0, .int 0])), (h1, .inl (k0, 200, .inl (upd (upd (fun _ => 0) 0 p1) 1 p0)))] t.heap ∧ va_K (dC, dI) vwCl [(k0, .int)] t ∧ va_D (va_A [(h0, .inr (10, [.ref h1, .int 1, .int 0, .int 0])), (h1, .inl (k0, 200, .inl (upd (fun _ => 0) 0 p1)))] sz) [(h0, .inr (10, [.ref h1, .int 2, .int 0, .int 0])), (h1, .inl (k0, 200, .inl (upd (upd (fun _ => 0) 0 p1) 1 p0)))])) (va_A [(h0, .inr (10, [.ref h1, .int 1, .int 0, .int 0])), (h1, .inl (k0, 200, .inl (upd (fun _ => 0) 0 p1)))] sz)) 0 0 (va_A [(h0, .inr (10, [.ref h1, .int 1, .int 0, .int 0])), (h1, .inl (k0, 200, .inl (upd (fun _ => 0) 0 p1)))] sz) := by
  refine Met.ofW (cc := cX7_add) (maxL := 2) (ret := none) (by decide) rfl ?_
  intro p e s m args below meth c s₁ B hml hv
  obtain ⟨rfl, hsz, hP, hK, hD0⟩ := hv
  have hx := B.exec
  have hb := B.bytes
  have hr := B.returns
  have hts := atoms_spec (ws := WS yX7_add cX7_add 2 none) B.pre
  have ht : ∀ w ∈ TW, w.before _ s = true := fun w h => hts w (List.mem_cons_of_mem _ h)
  have hown : s.vm.findClass "PatternWorkshop$Row" = some m.cls := findClass_of_methodNamed B.named
  have hlocks := B.notSynchronized
  subst hsz
  have hD := hD0.self (sz := s.heap.size)
  generalize hAe : va_A [(h0, .inr (10, [.ref h1, .int 1, .int 0, .int 0])), (h1, .inl (k0, 200, .inl (upd (fun _ => 0) 0 p1)))] s.heap.size = A at hD ⊢
  have hA : ∀ q : Nat, s.heap.size ≤ q → A q := fun q h => by rw [← hAe]; exact Or.inr h
  have hS : va_S A s.heap s.heap [] := va_S.rf
  have hP : va_P (dC, dI) vwCl [(h0, .inr (10, [.ref h1, .int 1, .int 0, .int 0])), (h1, .inl (k0, 200, .inl (upd (fun _ => 0) 0 p1)))] s.heap := hP
  have hl := lv_entry ([.ref h0, .int p0]) (n := 2) (Nat.le_of_ble_eq_true rfl)
  rw [lg_entry_eq]
  generalize (lg_sl ([.ref h0, .int p0]) ++ List.replicate (2 - (lg_sl ([.ref h0, .int p0])).length) Slot.unset).toArray = ls at hl ⊢
  have hl : lv_has ls 2 [(0, .ref h0), (1, .int p0)] := hl
  clear hD0
  refine lv_aload_n hx hb dX7_add_0 rfl (lv_at hl 0 rfl) ?_
  refine va_get (D := (dC, dI)) (ci := 10) (v := .int 1) (C := RX7) (T := TX7) (N := 4) hx hb ht inX7 hown hK hP 0 rfl rfl 1 (by decide) (ht _ tw_277) (fun _ h9 => h9) rfl dX7_add_1 ?_
  refine lv_if_lt (tgt := 42) hx hb dX7_add_4 (by decide) (fun c_ => absurd c_ (by decide)) (fun _ => ?_)
  refine lv_aload_n hx hb dX7_add_7 rfl (lv_at hl 0 rfl) ?_
  refine va_get (D := (dC, dI)) (ci := 10) (v := .int 1) (C := RX7) (T := TX7) (N := 4) hx hb ht inX7 hown hK hP 0 rfl rfl 1 (by decide) (ht _ tw_277) (fun _ h9 => h9) rfl dX7_add_8 ?_
  refine lv_aload_n hx hb dX7_add_11 rfl (lv_at hl 0 rfl) ?_
  refine va_get (D := (dC, dI)) (ci := 10) (v := .ref h1) (C := RX7) (T := TX7) (N := 4) hx hb ht inX7 hown hK hP 0 rfl rfl 0 (by decide) (ht _ tw_276) (fun _ h9 => h9) rfl dX7_add_12 ?_
  refine va_alen hx hb hK hP 1 0 rfl rfl (v := 200) (show Int32.ofNat 200 = 200 by decide) dX7_add_15 ?_
  refine lv_icmp_ge (tgt := 42) hx hb dX7_add_16 (by decide) (fun c_ => absurd c_ (by decide)) (fun _ => ?_)
  refine lv_aload_n hx hb dX7_add_19 rfl (lv_at hl 0 rfl) ?_
  refine va_get (D := (dC, dI)) (ci := 10) (v := .ref h1) (C := RX7) (T := TX7) (N := 4) hx hb ht inX7 hown hK hP 0 rfl rfl 0 (by decide) (ht _ tw_276) (fun _ h9 => h9) rfl dX7_add_20 ?_
  refine lv_aload_n hx hb dX7_add_23 rfl (lv_at hl 0 rfl) ?_
  refine va_get (D := (dC, dI)) (ci := 10) (v := .int 1) (C := RX7) (T := TX7) (N := 4) hx hb ht inX7 hown hK hP 0 rfl rfl 1 (by decide) (ht _ tw_277) (fun _ h9 => h9) rfl dX7_add_24 ?_
  refine lv_iload_n hx hb dX7_add_27 rfl (lv_at hl 1 rfl) ?_
  refine va_iast hx hb hK hP hD hS 1 0 rfl rfl (i := 1) (vpi (by decide)) dX7_add_28 (fun H_1 locs_1 hP_1 hD_1 hS_1 => ?_)
  have hP_1 : va_P (dC, dI) vwCl [(h0, .inr (10, [.ref h1, .int 1, .int 0, .int 0])), (h1, .inl (k0, 200, .inl (upd (upd (fun _ => 0) 0 p1) 1 p0)))] H_1 := hP_1
  have hD_1 : va_D A [(h0, .inr (10, [.ref h1, .int 1, .int 0, .int 0])), (h1, .inl (k0, 200, .inl (upd (upd (fun _ => 0) 0 p1) 1 p0)))] := hD_1
  clear hP hD hS
  refine lv_aload_n hx hb dX7_add_29 rfl (lv_at hl 0 rfl) ?_
  refine lv_dup hx hb dX7_add_30 rfl ?_
  refine va_get (D := (dC, dI)) (ci := 10) (v := .int 1) (C := RX7) (T := TX7) (N := 4) hx hb ht inX7 hown hK hP_1 0 rfl rfl 1 (by decide) (ht _ tw_277) (fun _ h9 => h9) rfl dX7_add_31 ?_
  refine lv_iconst (v := 1) hx hb dX7_add_34 (by decide) ?_
  refine lv_iadd hx hb dX7_add_35 ?_
  refine lv_topi (fun x_2 ex_2 => ?_)
  obtain rfl : x_2 = 2 := ex_2.trans (by decide)
  refine va_put (D := (dC, dI)) (ci := 10) (v := .int 2) (ty := .int) (C := RX7) (T := TX7) (N := 4) hx hb ht inX7 tyX7 tyX7_ok nmX7 hown hK hP_1 hD_1 hS_1 0 rfl rfl 1 (by decide) (ht _ tw_277) (fun _ h9 => h9) rfl (by decide +kernel) rfl rfl (Nat.le_of_ble_eq_true rfl) dX7_add_36 (fun H_3 locs_3 hP_3 hD_3 hS_3 => ?_)
  have hP_3 : va_P (dC, dI) vwCl [(h0, .inr (10, [.ref h1, .int 2, .int 0, .int 0])), (h1, .inl (k0, 200, .inl (upd (upd (fun _ => 0) 0 p1) 1 p0)))] H_3 := hP_3
  have hD_3 : va_D A [(h0, .inr (10, [.ref h1, .int 2, .int 0, .int 0])), (h1, .inl (k0, 200, .inl (upd (upd (fun _ => 0) 0 p1) 1 p0)))] := hD_3
  clear hP_1 hD_1 hS_1
  refine lv_goto (tgt := 47) hx hb dX7_add_39 (by decide) ?_
  have hP9 := hP_3.sub (ws' := [(h0, .inr (10, [.ref h1, .int 2, .int 0, .int 0])), (h1, .inl (k0, 200, .inl (upd (upd (fun _ => 0) 0 p1) 1 p0)))]) [0, 1] rfl
  have hD9 := hD_3.sub (ws' := [(h0, .inr (10, [.ref h1, .int 2, .int 0, .int 0])), (h1, .inl (k0, 200, .inl (upd (upd (fun _ => 0) 0 p1) 1 p0)))]) [0, 1] (by decide) rfl
  have hK9 := hK.sub (tys' := [(k0, .int)]) [0] rfl
  refine W.widen (k := 0) (n := 0) (by decide) (by decide) ?_
  exact W.vret hx hb hr (fun t9 ht9 hW9 => ⟨⟨0, rfl, rfl, ⟨by rw [ht9]; exact hP9, va_K.moved hW9.alike hK9, hD9⟩⟩, hS_3.F ht9⟩) hS_3.2.2 dX7_add_47
def GC2 (w0 : Int64) : Prop := (¬ (((w0.toUInt64 >>> ((0 : Int32).toInt64.toUInt64 &&& Int64.toUInt64 63)).toInt64).toInt32 &&& 255) < 32) ∧ (¬ 126 < (((w0.toUInt64 >>> ((0 : Int32).toInt64.toUInt64 &&& Int64.toUInt64 63)).toInt64).toInt32 &&& 255)) ∧ (¬ (((w0.toUInt64 >>> ((8 : Int32).toInt64.toUInt64 &&& Int64.toUInt64 63)).toInt64).toInt32 &&& 255) < 32) ∧ (¬ 126 < (((w0.toUInt64 >>> ((8 : Int32).toInt64.toUInt64 &&& Int64.toUInt64 63)).toInt64).toInt32 &&& 255))
