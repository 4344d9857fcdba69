set_option maxHeartbeats 4000000 in
set_option maxRecDepth 100000 in
theorem mt_X12_compare (l : Launch) (dC : Nat → ClassId) (dI : Nat → Nat → Nat) (h0 h1 h2 h3 h4 h5 h6 h7 h8 h9 h10 h11 h12 h13 h14 h15 h16 h17 h18 h19 h20 h21 h22 h23 h24 h25 h26 h27 h28 h29 h30 h31 h32 h33 h34 h35 h36 h37 h38 h39 h40 h41 h42 h43 h44 h45 h46 h47 h48 h49 h50 h51 h52 h53 h54 h55 h56 h57 h58 h59 h60 h61 h62 h63 h64 h65 h66 h67 h68 h69 h70 h71 h72 h73 h74 h75 h76 h77 h78 h79 h80 h81 h82 h83 h84 h85 h86 h87 h88 h89 h90 h91 h92 h93 h94 : Nat) (k0 : ClassId) (p0 p1 : Int32) (sz : Nat) : Met l yX12_compare (WS yX12_compare cX12_compare 7 (some (.int))) ({ frames := 2, cells := 0, slots := 0, locals := 43 }) (va_Pc [.ref h0, .int p0, .int p1] (fun U => U.heap.size = sz ∧ va_P (dC, dI) vwCl [(h0, .inr (15, [.int 0, .int 0, .ref h1, .int 0, .int (-1), .ref h2, .ref h3, .ref h4, .ref h5, .ref h6, .ref h7, .ref h8, .ref h9, .ref h10, .ref h11, .ref h12, .ref h13, .ref h14, .ref h15, .ref h16, .ref h17, .ref h18, .ref h19, .ref h20, .ref h21, .ref h22, .ref h23, .ref h24, .ref h25, .ref h26, .ref h27, .int 0, .ref h28, .ref h29, .int 0, .int 0, .int 0, .int 0, .int 0, .int 0, .ref h30, .int 0, .ref h31, .ref h32, .ref h33, .ref h34, .ref h35, .ref h36, .ref h37, .ref h38, .int 0, .int 0, .int 0, .int 0, .ref h39, .ref h40, .ref h41, .int 0, .ref h42, .int 0, .ref h43, .int 0, .int 0, .ref h44, .ref h45, .ref h46, .int 0, .ref h47, .ref h48, .ref h49, .ref h50, .ref h51, .ref h52, .ref h53, .int 0, .ref h54, .int 0, .ref h55, .ref h56, .ref h57, .int 0, .ref h58, .ref h59, .ref h60, .ref h61, .int 0, .ref h62, .ref h63, .ref h64, .ref h65, .int 0, .int 0, .int 0, .int 0, .int 0, .int 0, .int 0, .int 0, .int 0, .ref h66, .int 0, .ref h67, .int 0, .int 0, .int 0, .int 0, .int 0, .ref h68, .int 0, .int 0, .ref h69, .int 0, .ref h70, .int 0, .ref h71, .ref h72, .int 0, .ref h73, .ref h74, .ref h75, .ref h76, .long 0, .int 0, .ref h77, .ref h78, .ref h79, .ref h80, .ref h81, .ref h82, .ref h83, .ref h84, .ref h85, .ref h86, .ref h87, .ref h88, .ref h89, .ref h90, .ref h91, .int 0, .ref h92, .ref h93, .ref h94, .int 0])), (h2, .inl (k0, 6, .inl (fun _ => 0)))] U.heap ∧ va_K (dC, dI) vwCl [(k0, .boolean)] U ∧ va_D (fun _ => True) [(h0, .inr (15, [.int 0, .int 0, .ref h1, .int 0, .int (-1), .ref h2, .ref h3, .ref h4, .ref h5, .ref h6, .ref h7, .ref h8, .ref h9, .ref h10, .ref h11, .ref h12, .ref h13, .ref h14, .ref h15, .ref h16, .ref h17, .ref h18, .ref h19, .ref h20, .ref h21, .ref h22, .ref h23, .ref h24, .ref h25, .ref h26, .ref h27, .int 0, .ref h28, .ref h29, .int 0, .int 0, .int 0, .int 0, .int 0, .int 0, .ref h30, .int 0, .ref h31, .ref h32, .ref h33, .ref h34, .ref h35, .ref h36, .ref h37, .ref h38, .int 0, .int 0, .int 0, .int 0, .ref h39, .ref h40, .ref h41, .int 0, .ref h42, .int 0, .ref h43, .int 0, .int 0, .ref h44, .ref h45, .ref h46, .int 0, .ref h47, .ref h48, .ref h49, .ref h50, .ref h51, .ref h52, .ref h53, .int 0, .ref h54, .int 0, .ref h55, .ref h56, .ref h57, .int 0, .ref h58, .ref h59, .ref h60, .ref h61, .int 0, .ref h62, .ref h63, .ref h64, .ref h65, .int 0, .int 0, .int 0, .int 0, .int 0, .int 0, .int 0, .int 0, .int 0, .ref h66, .int 0, .ref h67, .int 0, .int 0, .int 0, .int 0, .int 0, .ref h68, .int 0, .int 0, .ref h69, .int 0, .ref h70, .int 0, .ref h71, .ref h72, .int 0, .ref h73, .ref h74, .ref h75, .ref h76, .long 0, .int 0, .ref h77, .ref h78, .ref h79, .ref h80, .ref h81, .ref h82, .ref h83, .ref h84, .ref h85, .ref h86, .ref h87, .ref h88, .ref h89, .ref h90, .ref h91, .int 0, .ref h92, .ref h93, .ref h94, .int 0])), (h2, .inl (k0, 6, .inl (fun _ => 0)))])) (va_Qi (fun (r : Int32) (u : Nat) => (u = 0 ∧ r = (-2))) (fun (_ : Nat) (t : State) => (va_P (dC, dI) vwCl [] t.heap ∧ va_K (dC, dI) vwCl [] t ∧ va_D (va_A [(h0, .inr (15, [.int 0, .int 0, .ref h1, .int 0, .int (-1), .ref h2, .ref h3, .ref h4, .ref h5, .ref h6, .ref h7, .ref h8, .ref h9, .ref h10, .ref h11, .ref h12, .ref h13, .ref h14, .ref h15, .ref h16, .ref h17, .ref h18, .ref h19, .ref h20, .ref h21, .ref h22, .ref h23, .ref h24, .ref h25, .ref h26, .ref h27, .int 0, .ref h28, .ref h29, .int 0, .int 0, .int 0, .int 0, .int 0, .int 0, .ref h30, .int 0, .ref h31, .ref h32, .ref h33, .ref h34, .ref h35, .ref h36, .ref h37, .ref h38, .int 0, .int 0, .int 0, .int 0, .ref h39, .ref h40, .ref h41, .int 0, .ref h42, .int 0, .ref h43, .int 0, .int 0, .ref h44, .ref h45, .ref h46, .int 0, .ref h47, .ref h48, .ref h49, .ref h50, .ref h51, .ref h52, .ref h53, .int 0, .ref h54, .int 0, .ref h55, .ref h56, .ref h57, .int 0, .ref h58, .ref h59, .ref h60, .ref h61, .int 0, .ref h62, .ref h63, .ref h64, .ref h65, .int 0, .int 0, .int 0, .int 0, .int 0, .int 0, .int 0, .int 0, .int 0, .ref h66, .int 0, .ref h67, .int 0, .int 0, .int 0, .int 0, .int 0, .ref h68, .int 0, .int 0, .ref h69, .int 0, .ref h70, .int 0, .ref h71, .ref h72, .int 0, .ref h73, .ref h74, .ref h75, .ref h76, .long 0, .int 0, .ref h77, .ref h78, .ref h79, .ref h80, .ref h81, .ref h82, .ref h83, .ref h84, .ref h85, .ref h86, .ref h87, .ref h88, .ref h89, .ref h90, .ref h91, .int 0, .ref h92, .ref h93, .ref h94, .int 0])), (h2, .inl (k0, 6, .inl (fun _ => 0)))] sz) [])) (va_A [(h0, .inr (15, [.int 0, .int 0, .ref h1, .int 0, .int (-1), .ref h2, .ref h3, .ref h4, .ref h5, .ref h6, .ref h7, .ref h8, .ref h9, .ref h10, .ref h11, .ref h12, .ref h13, .ref h14, .ref h15, .ref h16, .ref h17, .ref h18, .ref h19, .ref h20, .ref h21, .ref h22, .ref h23, .ref h24, .ref h25, .ref h26, .ref h27, .int 0, .ref h28, .ref h29, .int 0, .int 0, .int 0, .int 0, .int 0, .int 0, .ref h30, .int 0, .ref h31, .ref h32, .ref h33, .ref h34, .ref h35, .ref h36, .ref h37, .ref h38, .int 0, .int 0, .int 0, .int 0, .ref h39, .ref h40, .ref h41, .int 0, .ref h42, .int 0, .ref h43, .int 0, .int 0, .ref h44, .ref h45, .ref h46, .int 0, .ref h47, .ref h48, .ref h49, .ref h50, .ref h51, .ref h52, .ref h53, .int 0, .ref h54, .int 0, .ref h55, .ref h56, .ref h57, .int 0, .ref h58, .ref h59, .ref h60, .ref h61, .int 0, .ref h62, .ref h63, .ref h64, .ref h65, .int 0, .int 0, .int 0, .int 0, .int 0, .int 0, .int 0, .int 0, .int 0, .ref h66, .int 0, .ref h67, .int 0, .int 0, .int 0, .int 0, .int 0, .ref h68, .int 0, .int 0, .ref h69, .int 0, .ref h70, .int 0, .ref h71, .ref h72, .int 0, .ref h73, .ref h74, .ref h75, .ref h76, .long 0, .int 0, .ref h77, .ref h78, .ref h79, .ref h80, .ref h81, .ref h82, .ref h83, .ref h84, .ref h85, .ref h86, .ref h87, .ref h88, .ref h89, .ref h90, .ref h91, .int 0, .ref h92, .ref h93, .ref h94, .int 0])), (h2, .inl (k0, 6, .inl (fun _ => 0)))] sz)) 0 0 (va_A [(h0, .inr (15, [.int 0, .int 0, .ref h1, .int 0, .int (-1), .ref h2, .ref h3, .ref h4, .ref h5, .ref h6, .ref h7, .ref h8, .ref h9, .ref h10, .ref h11, .ref h12, .ref h13, .ref h14, .ref h15, .ref h16, .ref h17, .ref h18, .ref h19, .ref h20, .ref h21, .ref h22, .ref h23, .ref h24, .ref h25, .ref h26, .ref h27, .int 0, .ref h28, .ref h29, .int 0, .int 0, .int 0, .int 0, .int 0, .int 0, .ref h30, .int 0, .ref h31, .ref h32, .ref h33, .ref h34, .ref h35, .ref h36, .ref h37, .ref h38, .int 0, .int 0, .int 0, .int 0, .ref h39, .ref h40, .ref h41, .int 0, .ref h42, .int 0, .ref h43, .int 0, .int 0, .ref h44, .ref h45, .ref h46, .int 0, .ref h47, .ref h48, .ref h49, .ref h50, .ref h51, .ref h52, .ref h53, .int 0, .ref h54, .int 0, .ref h55, .ref h56, .ref h57, .int 0, .ref h58, .ref h59, .ref h60, .ref h61, .int 0, .ref h62, .ref h63, .ref h64, .ref h65, .int 0, .int 0, .int 0, .int 0, .int 0, .int 0, .int 0, .int 0, .int 0, .ref h66, .int 0, .ref h67, .int 0, .int 0, .int 0, .int 0, .int 0, .ref h68, .int 0, .int 0, .ref h69, .int 0, .ref h70, .int 0, .ref h71, .ref h72, .int 0, .ref h73, .ref h74, .ref h75, .ref h76, .long 0, .int 0, .ref h77, .ref h78, .ref h79, .ref h80, .ref h81, .ref h82, .ref h83, .ref h84, .ref h85, .ref h86, .ref h87, .ref h88, .ref h89, .ref h90, .ref h91, .int 0, .ref h92, .ref h93, .ref h94, .int 0])), (h2, .inl (k0, 6, .inl (fun _ => 0)))] sz) := by
  refine Met.ofW (cc := cX12_compare) (maxL := 7) (ret := (some (.int))) (by decide) rfl ?_
  intro p e s m args below meth c s₁ B hml hv
  obtain ⟨rfl, hsz, hP, hK, hD0⟩ := hv
  have hx := B.exec
  have hb := B.bytes
  have hr := B.returns
  have hts := atoms_spec (ws := WS yX12_compare cX12_compare 7 (some (.int))) B.pre
  have ht : ∀ w ∈ TW, w.before _ s = true := fun w h => hts w (List.mem_cons_of_mem _ h)
  have hown : s.vm.findClass "PatternWorkshopModel" = some m.cls := findClass_of_methodNamed B.named
  have hlocks := B.notSynchronized
  subst hsz
  have hD := hD0.self (sz := s.heap.size)
  generalize hAe : va_A [(h0, .inr (15, [.int 0, .int 0, .ref h1, .int 0, .int (-1), .ref h2, .ref h3, .ref h4, .ref h5, .ref h6, .ref h7, .ref h8, .ref h9, .ref h10, .ref h11, .ref h12, .ref h13, .ref h14, .ref h15, .ref h16, .ref h17, .ref h18, .ref h19, .ref h20, .ref h21, .ref h22, .ref h23, .ref h24, .ref h25, .ref h26, .ref h27, .int 0, .ref h28, .ref h29, .int 0, .int 0, .int 0, .int 0, .int 0, .int 0, .ref h30, .int 0, .ref h31, .ref h32, .ref h33, .ref h34, .ref h35, .ref h36, .ref h37, .ref h38, .int 0, .int 0, .int 0, .int 0, .ref h39, .ref h40, .ref h41, .int 0, .ref h42, .int 0, .ref h43, .int 0, .int 0, .ref h44, .ref h45, .ref h46, .int 0, .ref h47, .ref h48, .ref h49, .ref h50, .ref h51, .ref h52, .ref h53, .int 0, .ref h54, .int 0, .ref h55, .ref h56, .ref h57, .int 0, .ref h58, .ref h59, .ref h60, .ref h61, .int 0, .ref h62, .ref h63, .ref h64, .ref h65, .int 0, .int 0, .int 0, .int 0, .int 0, .int 0, .int 0, .int 0, .int 0, .ref h66, .int 0, .ref h67, .int 0, .int 0, .int 0, .int 0, .int 0, .ref h68, .int 0, .int 0, .ref h69, .int 0, .ref h70, .int 0, .ref h71, .ref h72, .int 0, .ref h73, .ref h74, .ref h75, .ref h76, .long 0, .int 0, .ref h77, .ref h78, .ref h79, .ref h80, .ref h81, .ref h82, .ref h83, .ref h84, .ref h85, .ref h86, .ref h87, .ref h88, .ref h89, .ref h90, .ref h91, .int 0, .ref h92, .ref h93, .ref h94, .int 0])), (h2, .inl (k0, 6, .inl (fun _ => 0)))] s.heap.size = A at hD ⊢
  have hA : ∀ q : Nat, s.heap.size ≤ q → A q := fun q h => by rw [← hAe]; exact Or.inr h
  have hS : va_S A s.heap s.heap [] := va_S.rf
  have hP : va_P (dC, dI) vwCl [(h0, .inr (15, [.int 0, .int 0, .ref h1, .int 0, .int (-1), .ref h2, .ref h3, .ref h4, .ref h5, .ref h6, .ref h7, .ref h8, .ref h9, .ref h10, .ref h11, .ref h12, .ref h13, .ref h14, .ref h15, .ref h16, .ref h17, .ref h18, .ref h19, .ref h20, .ref h21, .ref h22, .ref h23, .ref h24, .ref h25, .ref h26, .ref h27, .int 0, .ref h28, .ref h29, .int 0, .int 0, .int 0, .int 0, .int 0, .int 0, .ref h30, .int 0, .ref h31, .ref h32, .ref h33, .ref h34, .ref h35, .ref h36, .ref h37, .ref h38, .int 0, .int 0, .int 0, .int 0, .ref h39, .ref h40, .ref h41, .int 0, .ref h42, .int 0, .ref h43, .int 0, .int 0, .ref h44, .ref h45, .ref h46, .int 0, .ref h47, .ref h48, .ref h49, .ref h50, .ref h51, .ref h52, .ref h53, .int 0, .ref h54, .int 0, .ref h55, .ref h56, .ref h57, .int 0, .ref h58, .ref h59, .ref h60, .ref h61, .int 0, .ref h62, .ref h63, .ref h64, .ref h65, .int 0, .int 0, .int 0, .int 0, .int 0, .int 0, .int 0, .int 0, .int 0, .ref h66, .int 0, .ref h67, .int 0, .int 0, .int 0, .int 0, .int 0, .ref h68, .int 0, .int 0, .ref h69, .int 0, .ref h70, .int 0, .ref h71, .ref h72, .int 0, .ref h73, .ref h74, .ref h75, .ref h76, .long 0, .int 0, .ref h77, .ref h78, .ref h79, .ref h80, .ref h81, .ref h82, .ref h83, .ref h84, .ref h85, .ref h86, .ref h87, .ref h88, .ref h89, .ref h90, .ref h91, .int 0, .ref h92, .ref h93, .ref h94, .int 0])), (h2, .inl (k0, 6, .inl (fun _ => 0)))] s.heap := hP
  have hl := lv_entry ([.ref h0, .int p0, .int p1]) (n := 7) (Nat.le_of_ble_eq_true rfl)
  rw [lg_entry_eq]
  generalize (lg_sl ([.ref h0, .int p0, .int p1]) ++ List.replicate (7 - (lg_sl ([.ref h0, .int p0, .int p1])).length) Slot.unset).toArray = ls at hl ⊢
  have hl : lv_has ls 7 [(0, .ref h0), (1, .int p0), (2, .int p1)] := hl
  clear hD0
  refine lv_aload_n hx hb dX12_compare_0 rfl (lv_at hl 0 rfl) ?_
  refine lv_iconst (v := 0) hx hb dX12_compare_1 (by decide) ?_
  refine va_put (D := (dC, dI)) (ci := 15) (v := .int 0) (ty := .int) (C := RX12) (T := TX12) (N := 143) hx hb ht inX12 tyX12 tyX12_ok nmX12 hown hK hP hD hS 0 rfl rfl 0 (by decide) (ht _ tw_2140) (fun _ h9 => h9) rfl (by decide +kernel) rfl rfl (Nat.le_of_ble_eq_true rfl) dX12_compare_2 (fun H_1 locs_1 hP_1 hD_1 hS_1 => ?_)
  have hP_1 : va_P (dC, dI) vwCl [(h0, .inr (15, [.int 0, .int 0, .ref h1, .int 0, .int (-1), .ref h2, .ref h3, .ref h4, .ref h5, .ref h6, .ref h7, .ref h8, .ref h9, .ref h10, .ref h11, .ref h12, .ref h13, .ref h14, .ref h15, .ref h16, .ref h17, .ref h18, .ref h19, .ref h20, .ref h21, .ref h22, .ref h23, .ref h24, .ref h25, .ref h26, .ref h27, .int 0, .ref h28, .ref h29, .int 0, .int 0, .int 0, .int 0, .int 0, .int 0, .ref h30, .int 0, .ref h31, .ref h32, .ref h33, .ref h34, .ref h35, .ref h36, .ref h37, .ref h38, .int 0, .int 0, .int 0, .int 0, .ref h39, .ref h40, .ref h41, .int 0, .ref h42, .int 0, .ref h43, .int 0, .int 0, .ref h44, .ref h45, .ref h46, .int 0, .ref h47, .ref h48, .ref h49, .ref h50, .ref h51, .ref h52, .ref h53, .int 0, .ref h54, .int 0, .ref h55, .ref h56, .ref h57, .int 0, .ref h58, .ref h59, .ref h60, .ref h61, .int 0, .ref h62, .ref h63, .ref h64, .ref h65, .int 0, .int 0, .int 0, .int 0, .int 0, .int 0, .int 0, .int 0, .int 0, .ref h66, .int 0, .ref h67, .int 0, .int 0, .int 0, .int 0, .int 0, .ref h68, .int 0, .int 0, .ref h69, .int 0, .ref h70, .int 0, .ref h71, .ref h72, .int 0, .ref h73, .ref h74, .ref h75, .ref h76, .long 0, .int 0, .ref h77, .ref h78, .ref h79, .ref h80, .ref h81, .ref h82, .ref h83, .ref h84, .ref h85, .ref h86, .ref h87, .ref h88, .ref h89, .ref h90, .ref h91, .int 0, .ref h92, .ref h93, .ref h94, .int 0])), (h2, .inl (k0, 6, .inl (fun _ => 0)))] H_1 := hP_1
  have hD_1 : va_D A [(h0, .inr (15, [.int 0, .int 0, .ref h1, .int 0, .int (-1), .ref h2, .ref h3, .ref h4, .ref h5, .ref h6, .ref h7, .ref h8, .ref h9, .ref h10, .ref h11, .ref h12, .ref h13, .ref h14, .ref h15, .ref h16, .ref h17, .ref h18, .ref h19, .ref h20, .ref h21, .ref h22, .ref h23, .ref h24, .ref h25, .ref h26, .ref h27, .int 0, .ref h28, .ref h29, .int 0, .int 0, .int 0, .int 0, .int 0, .int 0, .ref h30, .int 0, .ref h31, .ref h32, .ref h33, .ref h34, .ref h35, .ref h36, .ref h37, .ref h38, .int 0, .int 0, .int 0, .int 0, .ref h39, .ref h40, .ref h41, .int 0, .ref h42, .int 0, .ref h43, .int 0, .int 0, .ref h44, .ref h45, .ref h46, .int 0, .ref h47, .ref h48, .ref h49, .ref h50, .ref h51, .ref h52, .ref h53, .int 0, .ref h54, .int 0, .ref h55, .ref h56, .ref h57, .int 0, .ref h58, .ref h59, .ref h60, .ref h61, .int 0, .ref h62, .ref h63, .ref h64, .ref h65, .int 0, .int 0, .int 0, .int 0, .int 0, .int 0, .int 0, .int 0, .int 0, .ref h66, .int 0, .ref h67, .int 0, .int 0, .int 0, .int 0, .int 0, .ref h68, .int 0, .int 0, .ref h69, .int 0, .ref h70, .int 0, .ref h71, .ref h72, .int 0, .ref h73, .ref h74, .ref h75, .ref h76, .long 0, .int 0, .ref h77, .ref h78, .ref h79, .ref h80, .ref h81, .ref h82, .ref h83, .ref h84, .ref h85, .ref h86, .ref h87, .ref h88, .ref h89, .ref h90, .ref h91, .int 0, .ref h92, .ref h93, .ref h94, .int 0])), (h2, .inl (k0, 6, .inl (fun _ => 0)))] := hD_1
  clear hP hD hS
  refine lv_aload_n hx hb dX12_compare_5 rfl (lv_at hl 0 rfl) ?_
  refine lv_iload_n hx hb dX12_compare_6 rfl (lv_at hl 1 rfl) ?_
  have hPc_2 := hP_1.sub (ws' := [(h0, .inr (15, [.int 0, .int 0, .ref h1, .int 0, .int (-1), .ref h2, .ref h3, .ref h4, .ref h5, .ref h6, .ref h7, .ref h8, .ref h9, .ref h10, .ref h11, .ref h12, .ref h13, .ref h14, .ref h15, .ref h16, .ref h17, .ref h18, .ref h19, .ref h20, .ref h21, .ref h22, .ref h23, .ref h24, .ref h25, .ref h26, .ref h27, .int 0, .ref h28, .ref h29, .int 0, .int 0, .int 0, .int 0, .int 0, .int 0, .ref h30, .int 0, .ref h31, .ref h32, .ref h33, .ref h34, .ref h35, .ref h36, .ref h37, .ref h38, .int 0, .int 0, .int 0, .int 0, .ref h39, .ref h40, .ref h41, .int 0, .ref h42, .int 0, .ref h43, .int 0, .int 0, .ref h44, .ref h45, .ref h46, .int 0, .ref h47, .ref h48, .ref h49, .ref h50, .ref h51, .ref h52, .ref h53, .int 0, .ref h54, .int 0, .ref h55, .ref h56, .ref h57, .int 0, .ref h58, .ref h59, .ref h60, .ref h61, .int 0, .ref h62, .ref h63, .ref h64, .ref h65, .int 0, .int 0, .int 0, .int 0, .int 0, .int 0, .int 0, .int 0, .int 0, .ref h66, .int 0, .ref h67, .int 0, .int 0, .int 0, .int 0, .int 0, .ref h68, .int 0, .int 0, .ref h69, .int 0, .ref h70, .int 0, .ref h71, .ref h72, .int 0, .ref h73, .ref h74, .ref h75, .ref h76, .long 0, .int 0, .ref h77, .ref h78, .ref h79, .ref h80, .ref h81, .ref h82, .ref h83, .ref h84, .ref h85, .ref h86, .ref h87, .ref h88, .ref h89, .ref h90, .ref h91, .int 0, .ref h92, .ref h93, .ref h94, .int 0])), (h2, .inl (k0, 6, .inl (fun _ => 0)))]) [0, 1] rfl
  have hDc_2 := hD_1.sub (ws' := [(h0, .inr (15, [.int 0, .int 0, .ref h1, .int 0, .int (-1), .ref h2, .ref h3, .ref h4, .ref h5, .ref h6, .ref h7, .ref h8, .ref h9, .ref h10, .ref h11, .ref h12, .ref h13, .ref h14, .ref h15, .ref h16, .ref h17, .ref h18, .ref h19, .ref h20, .ref h21, .ref h22, .ref h23, .ref h24, .ref h25, .ref h26, .ref h27, .int 0, .ref h28, .ref h29, .int 0, .int 0, .int 0, .int 0, .int 0, .int 0, .ref h30, .int 0, .ref h31, .ref h32, .ref h33, .ref h34, .ref h35, .ref h36, .ref h37, .ref h38, .int 0, .int 0, .int 0, .int 0, .ref h39, .ref h40, .ref h41, .int 0, .ref h42, .int 0, .ref h43, .int 0, .int 0, .ref h44, .ref h45, .ref h46, .int 0, .ref h47, .ref h48, .ref h49, .ref h50, .ref h51, .ref h52, .ref h53, .int 0, .ref h54, .int 0, .ref h55, .ref h56, .ref h57, .int 0, .ref h58, .ref h59, .ref h60, .ref h61, .int 0, .ref h62, .ref h63, .ref h64, .ref h65, .int 0, .int 0, .int 0, .int 0, .int 0, .int 0, .int 0, .int 0, .int 0, .ref h66, .int 0, .ref h67, .int 0, .int 0, .int 0, .int 0, .int 0, .ref h68, .int 0, .int 0, .ref h69, .int 0, .ref h70, .int 0, .ref h71, .ref h72, .int 0, .ref h73, .ref h74, .ref h75, .ref h76, .long 0, .int 0, .ref h77, .ref h78, .ref h79, .ref h80, .ref h81, .ref h82, .ref h83, .ref h84, .ref h85, .ref h86, .ref h87, .ref h88, .ref h89, .ref h90, .ref h91, .int 0, .ref h92, .ref h93, .ref h94, .int 0])), (h2, .inl (k0, 6, .inl (fun _ => 0)))]) [0, 1] (by decide) rfl
  have hKc_2 := hK.sub (tys' := [(k0, .boolean)]) [0] rfl
  have hFc_2 := va_free (wc := [(h0, .inr (15, [.int 0, .int 0, .ref h1, .int 0, .int (-1), .ref h2, .ref h3, .ref h4, .ref h5, .ref h6, .ref h7, .ref h8, .ref h9, .ref h10, .ref h11, .ref h12, .ref h13, .ref h14, .ref h15, .ref h16, .ref h17, .ref h18, .ref h19, .ref h20, .ref h21, .ref h22, .ref h23, .ref h24, .ref h25, .ref h26, .ref h27, .int 0, .ref h28, .ref h29, .int 0, .int 0, .int 0, .int 0, .int 0, .int 0, .ref h30, .int 0, .ref h31, .ref h32, .ref h33, .ref h34, .ref h35, .ref h36, .ref h37, .ref h38, .int 0, .int 0, .int 0, .int 0, .ref h39, .ref h40, .ref h41, .int 0, .ref h42, .int 0, .ref h43, .int 0, .int 0, .ref h44, .ref h45, .ref h46, .int 0, .ref h47, .ref h48, .ref h49, .ref h50, .ref h51, .ref h52, .ref h53, .int 0, .ref h54, .int 0, .ref h55, .ref h56, .ref h57, .int 0, .ref h58, .ref h59, .ref h60, .ref h61, .int 0, .ref h62, .ref h63, .ref h64, .ref h65, .int 0, .int 0, .int 0, .int 0, .int 0, .int 0, .int 0, .int 0, .int 0, .ref h66, .int 0, .ref h67, .int 0, .int 0, .int 0, .int 0, .int 0, .ref h68, .int 0, .int 0, .ref h69, .int 0, .ref h70, .int 0, .ref h71, .ref h72, .int 0, .ref h73, .ref h74, .ref h75, .ref h76, .long 0, .int 0, .ref h77, .ref h78, .ref h79, .ref h80, .ref h81, .ref h82, .ref h83, .ref h84, .ref h85, .ref h86, .ref h87, .ref h88, .ref h89, .ref h90, .ref h91, .int 0, .ref h92, .ref h93, .ref h94, .int 0])), (h2, .inl (k0, 6, .inl (fun _ => 0)))]) hD_1 hS_1 hA [0, 1] rfl
  refine va_calli (va_runV (As := [.int p0]) (rest := []) ⟨hx, hb, hml, hown, ht⟩ (mt_X12_wrongSlot l dC dI h0 h1 h2 h3 h4 h5 h6 h7 h8 h9 h10 h11 h12 h13 h14 h15 h16 h17 h18 h19 h20 h21 h22 h23 h24 h25 h26 h27 h28 h29 h30 h31 h32 h33 h34 h35 h36 h37 h38 h39 h40 h41 h42 h43 h44 h45 h46 h47 h48 h49 h50 h51 h52 h53 h54 h55 h56 h57 h58 h59 h60 h61 h62 h63 h64 h65 h66 h67 h68 h69 h70 h71 h72 h73 h74 h75 h76 h77 h78 h79 h80 h81 h82 h83 h84 h85 h86 h87 h88 h89 h90 h91 h92 h93 h94 k0 p0 H_1.size) (cwV 1 ht (goodV tw_2706 tw_2708 tw_174 tw_249 gw_X12_wrongSlot) rfl rfl rfl (by decide +kernel) ⟨Nat.le_of_ble_eq_true rfl, Nat.le_of_ble_eq_true rfl⟩) ⟨fun a U g mk q => by obtain ⟨q0, q1, qP, qK, qD⟩ := q; exact ⟨q0, q1, qP, va_K.moved (u := U) (U := U.calling g mk a) (Vm.Alike.refl U.vm) qK, qD⟩, va_recv hKc_2 hPc_2 (ci := 15) (q0 := 0) rfl rfl, fun U hU hW => ⟨rfl, by rw [hU], by rw [hU]; exact hPc_2, va_K.moved hW.alike hKc_2, hDc_2.weaken (fun _ _ _ _ => trivial)⟩⟩ rfl rfl hl.1 rfl (lv_room (Nat.le_of_ble_eq_true rfl)) dX12_compare_7 ⟨Nat.le_of_ble_eq_true rfl, Nat.le_of_ble_eq_true rfl⟩) hS_1 (fun q _ h => hFc_2 q h) hFc_2 (fun r_2 u_2 t_2 H_2 locs_2 ht_2 hvm_2 hw_2 hB_2 hz_2 hk_2 hS_2 => ?_)
  rcases hw_2 with ⟨rfl, rfl, cc_2_0⟩ | ⟨rfl, rfl, cc_2_0, cc_2_1⟩ | ⟨rfl, rfl, cc_2_0, cc_2_1⟩
  · obtain ⟨hP1_2, hK1_2, hD1_2⟩ := hB_2
    rw [ht_2] at hP1_2
    have hK1_2 := va_K.moved hvm_2.symm hK1_2
    obtain ⟨hP_2, hD_2⟩ := va_join (wr := []) (w1 := []) hP_1 hD_1 [0, 1] [] rfl rfl (by decide) (by decide) hk_2 hFc_2 hP1_2 hD1_2
    have hK_2 := (hK.sub (tys' := []) [] rfl).app hK1_2
    have hK_2 : va_K (dC, dI) vwCl [] s := hK_2
    have hP_2 : va_P (dC, dI) vwCl [] H_2 := hP_2
    have hD_2 : va_D A [] := hD_2
    clear hP_1 hD_1 hS_1 hK hPc_2 hDc_2 hKc_2 hFc_2 hP1_2 hK1_2 hD1_2 hk_2 hz_2
    refine lv_if_ne (tgt := 21) hx hb dX12_compare_10 (by decide) (fun _ => ?_) (fun c_ => absurd c_ (by decide))
    refine lv_bipush (v := (-2)) hx hb dX12_compare_21 (by decide) ?_
    have hP9 := hP_2.sub (ws' := []) [] rfl
    have hD9 := hD_2.sub (ws' := []) [] (by decide) rfl
    have hK9 := hK_2.sub (tys' := []) [] rfl
    refine W.widen (k := 0) (n := 0) (by decide) (by decide) ?_
    exact W.iret (v := (-2)) hx hb hr (fun t9 ht9 hW9 => ⟨⟨(-2), 0, rfl, ⟨rfl, rfl⟩, ⟨by rw [ht9]; exact hP9, va_K.moved hW9.alike hK9, hD9⟩⟩, hS_2.F ht9⟩) hS_2.2.2 dX12_compare_23
  · obtain ⟨hP1_2, hK1_2, hD1_2⟩ := hB_2
    rw [ht_2] at hP1_2
    have hK1_2 := va_K.moved hvm_2.symm hK1_2
    obtain ⟨hP_2, hD_2⟩ := va_join (wr := []) (w1 := []) hP_1 hD_1 [0, 1] [] rfl rfl (by decide) (by decide) hk_2 hFc_2 hP1_2 hD1_2
    have hK_2 := (hK.sub (tys' := []) [] rfl).app hK1_2
    have hK_2 : va_K (dC, dI) vwCl [] s := hK_2
    have hP_2 : va_P (dC, dI) vwCl [] H_2 := hP_2
    have hD_2 : va_D A [] := hD_2
    clear hP_1 hD_1 hS_1 hK hPc_2 hDc_2 hKc_2 hFc_2 hP1_2 hK1_2 hD1_2 hk_2 hz_2
    refine lv_if_ne (tgt := 21) hx hb dX12_compare_10 (by decide) (fun _ => ?_) (fun c_ => absurd c_ (by decide))
    refine lv_bipush (v := (-2)) hx hb dX12_compare_21 (by decide) ?_
    have hP9 := hP_2.sub (ws' := []) [] rfl
    have hD9 := hD_2.sub (ws' := []) [] (by decide) rfl
    have hK9 := hK_2.sub (tys' := []) [] rfl
    refine W.widen (k := 0) (n := 0) (by decide) (by decide) ?_
    exact W.iret (v := (-2)) hx hb hr (fun t9 ht9 hW9 => ⟨⟨(-2), 0, rfl, ⟨rfl, rfl⟩, ⟨by rw [ht9]; exact hP9, va_K.moved hW9.alike hK9, hD9⟩⟩, hS_2.F ht9⟩) hS_2.2.2 dX12_compare_23
  · obtain ⟨hP1_2, hK1_2, hD1_2⟩ := hB_2
    rw [ht_2] at hP1_2
    have hK1_2 := va_K.moved hvm_2.symm hK1_2
    obtain ⟨hP_2, hD_2⟩ := va_join (wr := []) (w1 := []) hP_1 hD_1 [0, 1] [] rfl rfl (by decide) (by decide) hk_2 hFc_2 hP1_2 hD1_2
    have hK_2 := (hK.sub (tys' := []) [] rfl).app hK1_2
    have hK_2 : va_K (dC, dI) vwCl [] s := hK_2
    have hP_2 : va_P (dC, dI) vwCl [] H_2 := hP_2
    have hD_2 : va_D A [] := hD_2
    clear hP_1 hD_1 hS_1 hK hPc_2 hDc_2 hKc_2 hFc_2 hP1_2 hK1_2 hD1_2 hk_2 hz_2
    refine lv_if_ne (tgt := 21) hx hb dX12_compare_10 (by decide) (fun _ => ?_) (fun c_ => absurd c_ (by decide))
    refine lv_bipush (v := (-2)) hx hb dX12_compare_21 (by decide) ?_
    have hP9 := hP_2.sub (ws' := []) [] rfl
    have hD9 := hD_2.sub (ws' := []) [] (by decide) rfl
    have hK9 := hK_2.sub (tys' := []) [] rfl
    refine W.widen (k := 0) (n := 0) (by decide) (by decide) ?_
    exact W.iret (v := (-2)) hx hb hr (fun t9 ht9 hW9 => ⟨⟨(-2), 0, rfl, ⟨rfl, rfl⟩, ⟨by rw [ht9]; exact hP9, va_K.moved hW9.alike hK9, hD9⟩⟩, hS_2.F ht9⟩) hS_2.2.2 dX12_compare_23
set_option maxHeartbeats 4000000 in
set_option maxRecDepth 100000 in
theorem mt_X12_parting (l : Launch) (dC : Nat → ClassId) (dI : Nat → Nat → Nat) (h0 h1 h2 h3 h4 h5 h6 h7 h8 h9 h10 h11 h12 h13 h14 h15 h16 h17 h18 h19 h20 h21 h22 h23 h24 h25 h26 h27 h28 h29 h30 h31 h32 h33 h34 h35 h36 h37 h38 h39 h40 h41 h42 h43 h44 h45 h46 h47 h48 h49 h50 h51 h52 h53 h54 h55 h56 h57 h58 h59 h60 h61 h62 h63 h64 h65 h66 h67 h68 h69 h70 h71 h72 h73 h74 h75 h76 h77 h78 h79 h80 h81 h82 h83 h84 h85 h86 h87 h88 h89 h90 h91 h92 h93 h94 : Nat) (k0 : ClassId) (p0 p1 : Int32) (sz : Nat) : Met l yX12_parting (WS yX12_parting cX12_parting 7 (some (.int))) ({ frames := 2, cells := 0, slots := 0, locals := 43 }) (va_Pc [.ref h0, .int p0, .int p1] (fun U => U.heap.size = sz ∧ va_P (dC, dI) vwCl [(h0, .inr (15, [.int 0, .int 0, .ref h1, .int 0, .int (-1), .ref h2, .ref h3, .ref h4, .ref h5, .ref h6, .ref h7, .ref h8, .ref h9, .ref h10, .ref h11, .ref h12, .ref h13, .ref h14, .ref h15, .ref h16, .ref h17, .ref h18, .ref h19, .ref h20, .ref h21, .ref h22, .ref h23, .ref h24, .ref h25, .ref h26, .ref h27, .int 0, .ref h28, .ref h29, .int 0, .int 0, .int 0, .int 0, .int 0, .int 0, .ref h30, .int 0, .ref h31, .ref h32, .ref h33, .ref h34, .ref h35, .ref h36, .ref h37, .ref h38, .int 0, .int 0, .int 0, .int 0, .ref h39, .ref h40, .ref h41, .int 0, .ref h42, .int 0, .ref h43, .int 0, .int 0, .ref h44, .ref h45, .ref h46, .int 0, .ref h47, .ref h48, .ref h49, .ref h50, .ref h51, .ref h52, .ref h53, .int 0, .ref h54, .int 0, .ref h55, .ref h56, .ref h57, .int 0, .ref h58, .ref h59, .ref h60, .ref h61, .int 0, .ref h62, .ref h63, .ref h64, .ref h65, .int 0, .int 0, .int 0, .int 0, .int 0, .int 0, .int 0, .int 0, .int 0, .ref h66, .int 0, .ref h67, .int 0, .int 0, .int 0, .int 0, .int 0, .ref h68, .int 0, .int 0, .ref h69, .int 0, .ref h70, .int 0, .ref h71, .ref h72, .int 0, .ref h73, .ref h74, .ref h75, .ref h76, .long 0, .int 0, .ref h77, .ref h78, .ref h79, .ref h80, .ref h81, .ref h82, .ref h83, .ref h84, .ref h85, .ref h86, .ref h87, .ref h88, .ref h89, .ref h90, .ref h91, .int 0, .ref h92, .ref h93, .ref h94, .int 0])), (h2, .inl (k0, 6, .inl (fun _ => 0)))] U.heap ∧ va_K (dC, dI) vwCl [(k0, .boolean)] U ∧ va_D (fun _ => True) [(h0, .inr (15, [.int 0, .int 0, .ref h1, .int 0, .int (-1), .ref h2, .ref h3, .ref h4, .ref h5, .ref h6, .ref h7, .ref h8, .ref h9, .ref h10, .ref h11, .ref h12, .ref h13, .ref h14, .ref h15, .ref h16, .ref h17, .ref h18, .ref h19, .ref h20, .ref h21, .ref h22, .ref h23, .ref h24, .ref h25, .ref h26, .ref h27, .int 0, .ref h28, .ref h29, .int 0, .int 0, .int 0, .int 0, .int 0, .int 0, .ref h30, .int 0, .ref h31, .ref h32, .ref h33, .ref h34, .ref h35, .ref h36, .ref h37, .ref h38, .int 0, .int 0, .int 0, .int 0, .ref h39, .ref h40, .ref h41, .int 0, .ref h42, .int 0, .ref h43, .int 0, .int 0, .ref h44, .ref h45, .ref h46, .int 0, .ref h47, .ref h48, .ref h49, .ref h50, .ref h51, .ref h52, .ref h53, .int 0, .ref h54, .int 0, .ref h55, .ref h56, .ref h57, .int 0, .ref h58, .ref h59, .ref h60, .ref h61, .int 0, .ref h62, .ref h63, .ref h64, .ref h65, .int 0, .int 0, .int 0, .int 0, .int 0, .int 0, .int 0, .int 0, .int 0, .ref h66, .int 0, .ref h67, .int 0, .int 0, .int 0, .int 0, .int 0, .ref h68, .int 0, .int 0, .ref h69, .int 0, .ref h70, .int 0, .ref h71, .ref h72, .int 0, .ref h73, .ref h74, .ref h75, .ref h76, .long 0, .int 0, .ref h77, .ref h78, .ref h79, .ref h80, .ref h81, .ref h82, .ref h83, .ref h84, .ref h85, .ref h86, .ref h87, .ref h88, .ref h89, .ref h90, .ref h91, .int 0, .ref h92, .ref h93, .ref h94, .int 0])), (h2, .inl (k0, 6, .inl (fun _ => 0)))])) (va_Qi (fun (r : Int32) (u : Nat) => (u = 0 ∧ r = (-2))) (fun (_ : Nat) (t : State) => (va_P (dC, dI) vwCl [] t.heap ∧ va_K (dC, dI) vwCl [] t ∧ va_D (va_A [(h0, .inr (15, [.int 0, .int 0, .ref h1, .int 0, .int (-1), .ref h2, .ref h3, .ref h4, .ref h5, .ref h6, .ref h7, .ref h8, .ref h9, .ref h10, .ref h11, .ref h12, .ref h13, .ref h14, .ref h15, .ref h16, .ref h17, .ref h18, .ref h19, .ref h20, .ref h21, .ref h22, .ref h23, .ref h24, .ref h25, .ref h26, .ref h27, .int 0, .ref h28, .ref h29, .int 0, .int 0, .int 0, .int 0, .int 0, .int 0, .ref h30, .int 0, .ref h31, .ref h32, .ref h33, .ref h34, .ref h35, .ref h36, .ref h37, .ref h38, .int 0, .int 0, .int 0, .int 0, .ref h39, .ref h40, .ref h41, .int 0, .ref h42, .int 0, .ref h43, .int 0, .int 0, .ref h44, .ref h45, .ref h46, .int 0, .ref h47, .ref h48, .ref h49, .ref h50, .ref h51, .ref h52, .ref h53, .int 0, .ref h54, .int 0, .ref h55, .ref h56, .ref h57, .int 0, .ref h58, .ref h59, .ref h60, .ref h61, .int 0, .ref h62, .ref h63, .ref h64, .ref h65, .int 0, .int 0, .int 0, .int 0, .int 0, .int 0, .int 0, .int 0, .int 0, .ref h66, .int 0, .ref h67, .int 0, .int 0, .int 0, .int 0, .int 0, .ref h68, .int 0, .int 0, .ref h69, .int 0, .ref h70, .int 0, .ref h71, .ref h72, .int 0, .ref h73, .ref h74, .ref h75, .ref h76, .long 0, .int 0, .ref h77, .ref h78, .ref h79, .ref h80, .ref h81, .ref h82, .ref h83, .ref h84, .ref h85, .ref h86, .ref h87, .ref h88, .ref h89, .ref h90, .ref h91, .int 0, .ref h92, .ref h93, .ref h94, .int 0])), (h2, .inl (k0, 6, .inl (fun _ => 0)))] sz) [])) (va_A [(h0, .inr (15, [.int 0, .int 0, .ref h1, .int 0, .int (-1), .ref h2, .ref h3, .ref h4, .ref h5, .ref h6, .ref h7, .ref h8, .ref h9, .ref h10, .ref h11, .ref h12, .ref h13, .ref h14, .ref h15, .ref h16, .ref h17, .ref h18, .ref h19, .ref h20, .ref h21, .ref h22, .ref h23, .ref h24, .ref h25, .ref h26, .ref h27, .int 0, .ref h28, .ref h29, .int 0, .int 0, .int 0, .int 0, .int 0, .int 0, .ref h30, .int 0, .ref h31, .ref h32, .ref h33, .ref h34, .ref h35, .ref h36, .ref h37, .ref h38, .int 0, .int 0, .int 0, .int 0, .ref h39, .ref h40, .ref h41, .int 0, .ref h42, .int 0, .ref h43, .int 0, .int 0, .ref h44, .ref h45, .ref h46, .int 0, .ref h47, .ref h48, .ref h49, .ref h50, .ref h51, .ref h52, .ref h53, .int 0, .ref h54, .int 0, .ref h55, .ref h56, .ref h57, .int 0, .ref h58, .ref h59, .ref h60, .ref h61, .int 0, .ref h62, .ref h63, .ref h64, .ref h65, .int 0, .int 0, .int 0, .int 0, .int 0, .int 0, .int 0, .int 0, .int 0, .ref h66, .int 0, .ref h67, .int 0, .int 0, .int 0, .int 0, .int 0, .ref h68, .int 0, .int 0, .ref h69, .int 0, .ref h70, .int 0, .ref h71, .ref h72, .int 0, .ref h73, .ref h74, .ref h75, .ref h76, .long 0, .int 0, .ref h77, .ref h78, .ref h79, .ref h80, .ref h81, .ref h82, .ref h83, .ref h84, .ref h85, .ref h86, .ref h87, .ref h88, .ref h89, .ref h90, .ref h91, .int 0, .ref h92, .ref h93, .ref h94, .int 0])), (h2, .inl (k0, 6, .inl (fun _ => 0)))] sz)) 0 0 (va_A [(h0, .inr (15, [.int 0, .int 0, .ref h1, .int 0, .int (-1), .ref h2, .ref h3, .ref h4, .ref h5, .ref h6, .ref h7, .ref h8, .ref h9, .ref h10, .ref h11, .ref h12, .ref h13, .ref h14, .ref h15, .ref h16, .ref h17, .ref h18, .ref h19, .ref h20, .ref h21, .ref h22, .ref h23, .ref h24, .ref h25, .ref h26, .ref h27, .int 0, .ref h28, .ref h29, .int 0, .int 0, .int 0, .int 0, .int 0, .int 0, .ref h30, .int 0, .ref h31, .ref h32, .ref h33, .ref h34, .ref h35, .ref h36, .ref h37, .ref h38, .int 0, .int 0, .int 0, .int 0, .ref h39, .ref h40, .ref h41, .int 0, .ref h42, .int 0, .ref h43, .int 0, .int 0, .ref h44, .ref h45, .ref h46, .int 0, .ref h47, .ref h48, .ref h49, .ref h50, .ref h51, .ref h52, .ref h53, .int 0, .ref h54, .int 0, .ref h55, .ref h56, .ref h57, .int 0, .ref h58, .ref h59, .ref h60, .ref h61, .int 0, .ref h62, .ref h63, .ref h64, .ref h65, .int 0, .int 0, .int 0, .int 0, .int 0, .int 0, .int 0, .int 0, .int 0, .ref h66, .int 0, .ref h67, .int 0, .int 0, .int 0, .int 0, .int 0, .ref h68, .int 0, .int 0, .ref h69, .int 0, .ref h70, .int 0, .ref h71, .ref h72, .int 0, .ref h73, .ref h74, .ref h75, .ref h76, .long 0, .int 0, .ref h77, .ref h78, .ref h79, .ref h80, .ref h81, .ref h82, .ref h83, .ref h84, .ref h85, .ref h86, .ref h87, .ref h88, .ref h89, .ref h90, .ref h91, .int 0, .ref h92, .ref h93, .ref h94, .int 0])), (h2, .inl (k0, 6, .inl (fun _ => 0)))] sz) := by
  refine Met.ofW (cc := cX12_parting) (maxL := 7) (ret := (some (.int))) (by decide) rfl ?_
  intro p e s m args below meth c s₁ B hml hv
  obtain ⟨rfl, hsz, hP, hK, hD0⟩ := hv
  have hx := B.exec
  have hb := B.bytes
  have hr := B.returns
  have hts := atoms_spec (ws := WS yX12_parting cX12_parting 7 (some (.int))) B.pre
  have ht : ∀ w ∈ TW, w.before _ s = true := fun w h => hts w (List.mem_cons_of_mem _ h)
  have hown : s.vm.findClass "PatternWorkshopModel" = some m.cls := findClass_of_methodNamed B.named
  have hlocks := B.notSynchronized
  subst hsz
  have hD := hD0.self (sz := s.heap.size)
  generalize hAe : va_A [(h0, .inr (15, [.int 0, .int 0, .ref h1, .int 0, .int (-1), .ref h2, .ref h3, .ref h4, .ref h5, .ref h6, .ref h7, .ref h8, .ref h9, .ref h10, .ref h11, .ref h12, .ref h13, .ref h14, .ref h15, .ref h16, .ref h17, .ref h18, .ref h19, .ref h20, .ref h21, .ref h22, .ref h23, .ref h24, .ref h25, .ref h26, .ref h27, .int 0, .ref h28, .ref h29, .int 0, .int 0, .int 0, .int 0, .int 0, .int 0, .ref h30, .int 0, .ref h31, .ref h32, .ref h33, .ref h34, .ref h35, .ref h36, .ref h37, .ref h38, .int 0, .int 0, .int 0, .int 0, .ref h39, .ref h40, .ref h41, .int 0, .ref h42, .int 0, .ref h43, .int 0, .int 0, .ref h44, .ref h45, .ref h46, .int 0, .ref h47, .ref h48, .ref h49, .ref h50, .ref h51, .ref h52, .ref h53, .int 0, .ref h54, .int 0, .ref h55, .ref h56, .ref h57, .int 0, .ref h58, .ref h59, .ref h60, .ref h61, .int 0, .ref h62, .ref h63, .ref h64, .ref h65, .int 0, .int 0, .int 0, .int 0, .int 0, .int 0, .int 0, .int 0, .int 0, .ref h66, .int 0, .ref h67, .int 0, .int 0, .int 0, .int 0, .int 0, .ref h68, .int 0, .int 0, .ref h69, .int 0, .ref h70, .int 0, .ref h71, .ref h72, .int 0, .ref h73, .ref h74, .ref h75, .ref h76, .long 0, .int 0, .ref h77, .ref h78, .ref h79, .ref h80, .ref h81, .ref h82, .ref h83, .ref h84, .ref h85, .ref h86, .ref h87, .ref h88, .ref h89, .ref h90, .ref h91, .int 0, .ref h92, .ref h93, .ref h94, .int 0])), (h2, .inl (k0, 6, .inl (fun _ => 0)))] s.heap.size = A at hD ⊢
  have hA : ∀ q : Nat, s.heap.size ≤ q → A q := fun q h => by rw [← hAe]; exact Or.inr h
  have hS : va_S A s.heap s.heap [] := va_S.rf
  have hP : va_P (dC, dI) vwCl [(h0, .inr (15, [.int 0, .int 0, .ref h1, .int 0, .int (-1), .ref h2, .ref h3, .ref h4, .ref h5, .ref h6, .ref h7, .ref h8, .ref h9, .ref h10, .ref h11, .ref h12, .ref h13, .ref h14, .ref h15, .ref h16, .ref h17, .ref h18, .ref h19, .ref h20, .ref h21, .ref h22, .ref h23, .ref h24, .ref h25, .ref h26, .ref h27, .int 0, .ref h28, .ref h29, .int 0, .int 0, .int 0, .int 0, .int 0, .int 0, .ref h30, .int 0, .ref h31, .ref h32, .ref h33, .ref h34, .ref h35, .ref h36, .ref h37, .ref h38, .int 0, .int 0, .int 0, .int 0, .ref h39, .ref h40, .ref h41, .int 0, .ref h42, .int 0, .ref h43, .int 0, .int 0, .ref h44, .ref h45, .ref h46, .int 0, .ref h47, .ref h48, .ref h49, .ref h50, .ref h51, .ref h52, .ref h53, .int 0, .ref h54, .int 0, .ref h55, .ref h56, .ref h57, .int 0, .ref h58, .ref h59, .ref h60, .ref h61, .int 0, .ref h62, .ref h63, .ref h64, .ref h65, .int 0, .int 0, .int 0, .int 0, .int 0, .int 0, .int 0, .int 0, .int 0, .ref h66, .int 0, .ref h67, .int 0, .int 0, .int 0, .int 0, .int 0, .ref h68, .int 0, .int 0, .ref h69, .int 0, .ref h70, .int 0, .ref h71, .ref h72, .int 0, .ref h73, .ref h74, .ref h75, .ref h76, .long 0, .int 0, .ref h77, .ref h78, .ref h79, .ref h80, .ref h81, .ref h82, .ref h83, .ref h84, .ref h85, .ref h86, .ref h87, .ref h88, .ref h89, .ref h90, .ref h91, .int 0, .ref h92, .ref h93, .ref h94, .int 0])), (h2, .inl (k0, 6, .inl (fun _ => 0)))] s.heap := hP
  have hl := lv_entry ([.ref h0, .int p0, .int p1]) (n := 7) (Nat.le_of_ble_eq_true rfl)
  rw [lg_entry_eq]
  generalize (lg_sl ([.ref h0, .int p0, .int p1]) ++ List.replicate (7 - (lg_sl ([.ref h0, .int p0, .int p1])).length) Slot.unset).toArray = ls at hl ⊢
  have hl : lv_has ls 7 [(0, .ref h0), (1, .int p0), (2, .int p1)] := hl
  clear hD0
  refine lv_aload_n hx hb dX12_parting_0 rfl (lv_at hl 0 rfl) ?_
  refine lv_iconst (v := 0) hx hb dX12_parting_1 (by decide) ?_
  refine va_put (D := (dC, dI)) (ci := 15) (v := .int 0) (ty := .int) (C := RX12) (T := TX12) (N := 143) hx hb ht inX12 tyX12 tyX12_ok nmX12 hown hK hP hD hS 0 rfl rfl 0 (by decide) (ht _ tw_2140) (fun _ h9 => h9) rfl (by decide +kernel) rfl rfl (Nat.le_of_ble_eq_true rfl) dX12_parting_2 (fun H_1 locs_1 hP_1 hD_1 hS_1 => ?_)
  have hP_1 : va_P (dC, dI) vwCl [(h0, .inr (15, [.int 0, .int 0, .ref h1, .int 0, .int (-1), .ref h2, .ref h3, .ref h4, .ref h5, .ref h6, .ref h7, .ref h8, .ref h9, .ref h10, .ref h11, .ref h12, .ref h13, .ref h14, .ref h15, .ref h16, .ref h17, .ref h18, .ref h19, .ref h20, .ref h21, .ref h22, .ref h23, .ref h24, .ref h25, .ref h26, .ref h27, .int 0, .ref h28, .ref h29, .int 0, .int 0, .int 0, .int 0, .int 0, .int 0, .ref h30, .int 0, .ref h31, .ref h32, .ref h33, .ref h34, .ref h35, .ref h36, .ref h37, .ref h38, .int 0, .int 0, .int 0, .int 0, .ref h39, .ref h40, .ref h41, .int 0, .ref h42, .int 0, .ref h43, .int 0, .int 0, .ref h44, .ref h45, .ref h46, .int 0, .ref h47, .ref h48, .ref h49, .ref h50, .ref h51, .ref h52, .ref h53, .int 0, .ref h54, .int 0, .ref h55, .ref h56, .ref h57, .int 0, .ref h58, .ref h59, .ref h60, .ref h61, .int 0, .ref h62, .ref h63, .ref h64, .ref h65, .int 0, .int 0, .int 0, .int 0, .int 0, .int 0, .int 0, .int 0, .int 0, .ref h66, .int 0, .ref h67, .int 0, .int 0, .int 0, .int 0, .int 0, .ref h68, .int 0, .int 0, .ref h69, .int 0, .ref h70, .int 0, .ref h71, .ref h72, .int 0, .ref h73, .ref h74, .ref h75, .ref h76, .long 0, .int 0, .ref h77, .ref h78, .ref h79, .ref h80, .ref h81, .ref h82, .ref h83, .ref h84, .ref h85, .ref h86, .ref h87, .ref h88, .ref h89, .ref h90, .ref h91, .int 0, .ref h92, .ref h93, .ref h94, .int 0])), (h2, .inl (k0, 6, .inl (fun _ => 0)))] H_1 := hP_1
  have hD_1 : va_D A [(h0, .inr (15, [.int 0, .int 0, .ref h1, .int 0, .int (-1), .ref h2, .ref h3, .ref h4, .ref h5, .ref h6, .ref h7, .ref h8, .ref h9, .ref h10, .ref h11, .ref h12, .ref h13, .ref h14, .ref h15, .ref h16, .ref h17, .ref h18, .ref h19, .ref h20, .ref h21, .ref h22, .ref h23, .ref h24, .ref h25, .ref h26, .ref h27, .int 0, .ref h28, .ref h29, .int 0, .int 0, .int 0, .int 0, .int 0, .int 0, .ref h30, .int 0, .ref h31, .ref h32, .ref h33, .ref h34, .ref h35, .ref h36, .ref h37, .ref h38, .int 0, .int 0, .int 0, .int 0, .ref h39, .ref h40, .ref h41, .int 0, .ref h42, .int 0, .ref h43, .int 0, .int 0, .ref h44, .ref h45, .ref h46, .int 0, .ref h47, .ref h48, .ref h49, .ref h50, .ref h51, .ref h52, .ref h53, .int 0, .ref h54, .int 0, .ref h55, .ref h56, .ref h57, .int 0, .ref h58, .ref h59, .ref h60, .ref h61, .int 0, .ref h62, .ref h63, .ref h64, .ref h65, .int 0, .int 0, .int 0, .int 0, .int 0, .int 0, .int 0, .int 0, .int 0, .ref h66, .int 0, .ref h67, .int 0, .int 0, .int 0, .int 0, .int 0, .ref h68, .int 0, .int 0, .ref h69, .int 0, .ref h70, .int 0, .ref h71, .ref h72, .int 0, .ref h73, .ref h74, .ref h75, .ref h76, .long 0, .int 0, .ref h77, .ref h78, .ref h79, .ref h80, .ref h81, .ref h82, .ref h83, .ref h84, .ref h85, .ref h86, .ref h87, .ref h88, .ref h89, .ref h90, .ref h91, .int 0, .ref h92, .ref h93, .ref h94, .int 0])), (h2, .inl (k0, 6, .inl (fun _ => 0)))] := hD_1
  clear hP hD hS
  refine lv_aload_n hx hb dX12_parting_5 rfl (lv_at hl 0 rfl) ?_
  refine lv_iload_n hx hb dX12_parting_6 rfl (lv_at hl 1 rfl) ?_
  have hPc_2 := hP_1.sub (ws' := [(h0, .inr (15, [.int 0, .int 0, .ref h1, .int 0, .int (-1), .ref h2, .ref h3, .ref h4, .ref h5, .ref h6, .ref h7, .ref h8, .ref h9, .ref h10, .ref h11, .ref h12, .ref h13, .ref h14, .ref h15, .ref h16, .ref h17, .ref h18, .ref h19, .ref h20, .ref h21, .ref h22, .ref h23, .ref h24, .ref h25, .ref h26, .ref h27, .int 0, .ref h28, .ref h29, .int 0, .int 0, .int 0, .int 0, .int 0, .int 0, .ref h30, .int 0, .ref h31, .ref h32, .ref h33, .ref h34, .ref h35, .ref h36, .ref h37, .ref h38, .int 0, .int 0, .int 0, .int 0, .ref h39, .ref h40, .ref h41, .int 0, .ref h42, .int 0, .ref h43, .int 0, .int 0, .ref h44, .ref h45, .ref h46, .int 0, .ref h47, .ref h48, .ref h49, .ref h50, .ref h51, .ref h52, .ref h53, .int 0, .ref h54, .int 0, .ref h55, .ref h56, .ref h57, .int 0, .ref h58, .ref h59, .ref h60, .ref h61, .int 0, .ref h62, .ref h63, .ref h64, .ref h65, .int 0, .int 0, .int 0, .int 0, .int 0, .int 0, .int 0, .int 0, .int 0, .ref h66, .int 0, .ref h67, .int 0, .int 0, .int 0, .int 0, .int 0, .ref h68, .int 0, .int 0, .ref h69, .int 0, .ref h70, .int 0, .ref h71, .ref h72, .int 0, .ref h73, .ref h74, .ref h75, .ref h76, .long 0, .int 0, .ref h77, .ref h78, .ref h79, .ref h80, .ref h81, .ref h82, .ref h83, .ref h84, .ref h85, .ref h86, .ref h87, .ref h88, .ref h89, .ref h90, .ref h91, .int 0, .ref h92, .ref h93, .ref h94, .int 0])), (h2, .inl (k0, 6, .inl (fun _ => 0)))]) [0, 1] rfl
  have hDc_2 := hD_1.sub (ws' := [(h0, .inr (15, [.int 0, .int 0, .ref h1, .int 0, .int (-1), .ref h2, .ref h3, .ref h4, .ref h5, .ref h6, .ref h7, .ref h8, .ref h9, .ref h10, .ref h11, .ref h12, .ref h13, .ref h14, .ref h15, .ref h16, .ref h17, .ref h18, .ref h19, .ref h20, .ref h21, .ref h22, .ref h23, .ref h24, .ref h25, .ref h26, .ref h27, .int 0, .ref h28, .ref h29, .int 0, .int 0, .int 0, .int 0, .int 0, .int 0, .ref h30, .int 0, .ref h31, .ref h32, .ref h33, .ref h34, .ref h35, .ref h36, .ref h37, .ref h38, .int 0, .int 0, .int 0, .int 0, .ref h39, .ref h40, .ref h41, .int 0, .ref h42, .int 0, .ref h43, .int 0, .int 0, .ref h44, .ref h45, .ref h46, .int 0, .ref h47, .ref h48, .ref h49, .ref h50, .ref h51, .ref h52, .ref h53, .int 0, .ref h54, .int 0, .ref h55, .ref h56, .ref h57, .int 0, .ref h58, .ref h59, .ref h60, .ref h61, .int 0, .ref h62, .ref h63, .ref h64, .ref h65, .int 0, .int 0, .int 0, .int 0, .int 0, .int 0, .int 0, .int 0, .int 0, .ref h66, .int 0, .ref h67, .int 0, .int 0, .int 0, .int 0, .int 0, .ref h68, .int 0, .int 0, .ref h69, .int 0, .ref h70, .int 0, .ref h71, .ref h72, .int 0, .ref h73, .ref h74, .ref h75, .ref h76, .long 0, .int 0, .ref h77, .ref h78, .ref h79, .ref h80, .ref h81, .ref h82, .ref h83, .ref h84, .ref h85, .ref h86, .ref h87, .ref h88, .ref h89, .ref h90, .ref h91, .int 0, .ref h92, .ref h93, .ref h94, .int 0])), (h2, .inl (k0, 6, .inl (fun _ => 0)))]) [0, 1] (by decide) rfl
  have hKc_2 := hK.sub (tys' := [(k0, .boolean)]) [0] rfl
  have hFc_2 := va_free (wc := [(h0, .inr (15, [.int 0, .int 0, .ref h1, .int 0, .int (-1), .ref h2, .ref h3, .ref h4, .ref h5, .ref h6, .ref h7, .ref h8, .ref h9, .ref h10, .ref h11, .ref h12, .ref h13, .ref h14, .ref h15, .ref h16, .ref h17, .ref h18, .ref h19, .ref h20, .ref h21, .ref h22, .ref h23, .ref h24, .ref h25, .ref h26, .ref h27, .int 0, .ref h28, .ref h29, .int 0, .int 0, .int 0, .int 0, .int 0, .int 0, .ref h30, .int 0, .ref h31, .ref h32, .ref h33, .ref h34, .ref h35, .ref h36, .ref h37, .ref h38, .int 0, .int 0, .int 0, .int 0, .ref h39, .ref h40, .ref h41, .int 0, .ref h42, .int 0, .ref h43, .int 0, .int 0, .ref h44, .ref h45, .ref h46, .int 0, .ref h47, .ref h48, .ref h49, .ref h50, .ref h51, .ref h52, .ref h53, .int 0, .ref h54, .int 0, .ref h55, .ref h56, .ref h57, .int 0, .ref h58, .ref h59, .ref h60, .ref h61, .int 0, .ref h62, .ref h63, .ref h64, .ref h65, .int 0, .int 0, .int 0, .int 0, .int 0, .int 0, .int 0, .int 0, .int 0, .ref h66, .int 0, .ref h67, .int 0, .int 0, .int 0, .int 0, .int 0, .ref h68, .int 0, .int 0, .ref h69, .int 0, .ref h70, .int 0, .ref h71, .ref h72, .int 0, .ref h73, .ref h74, .ref h75, .ref h76, .long 0, .int 0, .ref h77, .ref h78, .ref h79, .ref h80, .ref h81, .ref h82, .ref h83, .ref h84, .ref h85, .ref h86, .ref h87, .ref h88, .ref h89, .ref h90, .ref h91, .int 0, .ref h92, .ref h93, .ref h94, .int 0])), (h2, .inl (k0, 6, .inl (fun _ => 0)))]) hD_1 hS_1 hA [0, 1] rfl
  refine va_calli (va_runV (As := [.int p0]) (rest := []) ⟨hx, hb, hml, hown, ht⟩ (mt_X12_wrongSlot l dC dI h0 h1 h2 h3 h4 h5 h6 h7 h8 h9 h10 h11 h12 h13 h14 h15 h16 h17 h18 h19 h20 h21 h22 h23 h24 h25 h26 h27 h28 h29 h30 h31 h32 h33 h34 h35 h36 h37 h38 h39 h40 h41 h42 h43 h44 h45 h46 h47 h48 h49 h50 h51 h52 h53 h54 h55 h56 h57 h58 h59 h60 h61 h62 h63 h64 h65 h66 h67 h68 h69 h70 h71 h72 h73 h74 h75 h76 h77 h78 h79 h80 h81 h82 h83 h84 h85 h86 h87 h88 h89 h90 h91 h92 h93 h94 k0 p0 H_1.size) (cwV 1 ht (goodV tw_2706 tw_2708 tw_174 tw_249 gw_X12_wrongSlot) rfl rfl rfl (by decide +kernel) ⟨Nat.le_of_ble_eq_true rfl, Nat.le_of_ble_eq_true rfl⟩) ⟨fun a U g mk q => by obtain ⟨q0, q1, qP, qK, qD⟩ := q; exact ⟨q0, q1, qP, va_K.moved (u := U) (U := U.calling g mk a) (Vm.Alike.refl U.vm) qK, qD⟩, va_recv hKc_2 hPc_2 (ci := 15) (q0 := 0) rfl rfl, fun U hU hW => ⟨rfl, by rw [hU], by rw [hU]; exact hPc_2, va_K.moved hW.alike hKc_2, hDc_2.weaken (fun _ _ _ _ => trivial)⟩⟩ rfl rfl hl.1 rfl (lv_room (Nat.le_of_ble_eq_true rfl)) dX12_parting_7 ⟨Nat.le_of_ble_eq_true rfl, Nat.le_of_ble_eq_true rfl⟩) hS_1 (fun q _ h => hFc_2 q h) hFc_2 (fun r_2 u_2 t_2 H_2 locs_2 ht_2 hvm_2 hw_2 hB_2 hz_2 hk_2 hS_2 => ?_)
  rcases hw_2 with ⟨rfl, rfl, cc_2_0⟩ | ⟨rfl, rfl, cc_2_0, cc_2_1⟩ | ⟨rfl, rfl, cc_2_0, cc_2_1⟩
  · obtain ⟨hP1_2, hK1_2, hD1_2⟩ := hB_2
    rw [ht_2] at hP1_2
    have hK1_2 := va_K.moved hvm_2.symm hK1_2
    obtain ⟨hP_2, hD_2⟩ := va_join (wr := []) (w1 := []) hP_1 hD_1 [0, 1] [] rfl rfl (by decide) (by decide) hk_2 hFc_2 hP1_2 hD1_2
    have hK_2 := (hK.sub (tys' := []) [] rfl).app hK1_2
    have hK_2 : va_K (dC, dI) vwCl [] s := hK_2
    have hP_2 : va_P (dC, dI) vwCl [] H_2 := hP_2
    have hD_2 : va_D A [] := hD_2
    clear hP_1 hD_1 hS_1 hK hPc_2 hDc_2 hKc_2 hFc_2 hP1_2 hK1_2 hD1_2 hk_2 hz_2
    refine lv_if_ne (tgt := 21) hx hb dX12_parting_10 (by decide) (fun _ => ?_) (fun c_ => absurd c_ (by decide))
    refine lv_bipush (v := (-2)) hx hb dX12_parting_21 (by decide) ?_
    have hP9 := hP_2.sub (ws' := []) [] rfl
    have hD9 := hD_2.sub (ws' := []) [] (by decide) rfl
    have hK9 := hK_2.sub (tys' := []) [] rfl
    refine W.widen (k := 0) (n := 0) (by decide) (by decide) ?_
    exact W.iret (v := (-2)) hx hb hr (fun t9 ht9 hW9 => ⟨⟨(-2), 0, rfl, ⟨rfl, rfl⟩, ⟨by rw [ht9]; exact hP9, va_K.moved hW9.alike hK9, hD9⟩⟩, hS_2.F ht9⟩) hS_2.2.2 dX12_parting_23
  · obtain ⟨hP1_2, hK1_2, hD1_2⟩ := hB_2
    rw [ht_2] at hP1_2
    have hK1_2 := va_K.moved hvm_2.symm hK1_2
    obtain ⟨hP_2, hD_2⟩ := va_join (wr := []) (w1 := []) hP_1 hD_1 [0, 1] [] rfl rfl (by decide) (by decide) hk_2 hFc_2 hP1_2 hD1_2
    have hK_2 := (hK.sub (tys' := []) [] rfl).app hK1_2
    have hK_2 : va_K (dC, dI) vwCl [] s := hK_2
    have hP_2 : va_P (dC, dI) vwCl [] H_2 := hP_2
    have hD_2 : va_D A [] := hD_2
    clear hP_1 hD_1 hS_1 hK hPc_2 hDc_2 hKc_2 hFc_2 hP1_2 hK1_2 hD1_2 hk_2 hz_2
    refine lv_if_ne (tgt := 21) hx hb dX12_parting_10 (by decide) (fun _ => ?_) (fun c_ => absurd c_ (by decide))
    refine lv_bipush (v := (-2)) hx hb dX12_parting_21 (by decide) ?_
    have hP9 := hP_2.sub (ws' := []) [] rfl
    have hD9 := hD_2.sub (ws' := []) [] (by decide) rfl
    have hK9 := hK_2.sub (tys' := []) [] rfl
    refine W.widen (k := 0) (n := 0) (by decide) (by decide) ?_
    exact W.iret (v := (-2)) hx hb hr (fun t9 ht9 hW9 => ⟨⟨(-2), 0, rfl, ⟨rfl, rfl⟩, ⟨by rw [ht9]; exact hP9, va_K.moved hW9.alike hK9, hD9⟩⟩, hS_2.F ht9⟩) hS_2.2.2 dX12_parting_23
  · obtain ⟨hP1_2, hK1_2, hD1_2⟩ := hB_2
    rw [ht_2] at hP1_2
    have hK1_2 := va_K.moved hvm_2.symm hK1_2
    obtain ⟨hP_2, hD_2⟩ := va_join (wr := []) (w1 := []) hP_1 hD_1 [0, 1] [] rfl rfl (by decide) (by decide) hk_2 hFc_2 hP1_2 hD1_2
    have hK_2 := (hK.sub (tys' := []) [] rfl).app hK1_2
    have hK_2 : va_K (dC, dI) vwCl [] s := hK_2
    have hP_2 : va_P (dC, dI) vwCl [] H_2 := hP_2
    have hD_2 : va_D A [] := hD_2
    clear hP_1 hD_1 hS_1 hK hPc_2 hDc_2 hKc_2 hFc_2 hP1_2 hK1_2 hD1_2 hk_2 hz_2
    refine lv_if_ne (tgt := 21) hx hb dX12_parting_10 (by decide) (fun _ => ?_) (fun c_ => absurd c_ (by decide))
    refine lv_bipush (v := (-2)) hx hb dX12_parting_21 (by decide) ?_
    have hP9 := hP_2.sub (ws' := []) [] rfl
    have hD9 := hD_2.sub (ws' := []) [] (by decide) rfl
    have hK9 := hK_2.sub (tys' := []) [] rfl
    refine W.widen (k := 0) (n := 0) (by decide) (by decide) ?_
    exact W.iret (v := (-2)) hx hb hr (fun t9 ht9 hW9 => ⟨⟨(-2), 0, rfl, ⟨rfl, rfl⟩, ⟨by rw [ht9]; exact hP9, va_K.moved hW9.alike hK9, hD9⟩⟩, hS_2.F ht9⟩) hS_2.2.2 dX12_parting_23
set_option maxHeartbeats 4000000 in
set_option maxRecDepth 100000 in
theorem mt_X12_finding (l : Launch) (dC : Nat → ClassId) (dI : Nat → Nat → Nat) (h0 h1 h2 h3 h4 h5 h6 h7 h8 h9 h10 h11 h12 h13 h14 h15 h16 h17 h18 h19 h20 h21 h22 h23 h24 h25 h26 h27 h28 h29 h30 h31 h32 h33 h34 h35 h36 h37 h38 h39 h40 h41 h42 h43 h44 h45 h46 h47 h48 h49 h50 h51 h52 h53 h54 h55 h56 h57 h58 h59 h60 h61 h62 h63 h64 h65 h66 h67 h68 h69 h70 h71 h72 h73 h74 h75 h76 h77 h78 h79 h80 h81 h82 h83 h84 h85 h86 h87 h88 h89 h90 h91 h92 h93 h94 : Nat) (sz : Nat) : Met l yX12_finding (WS yX12_finding cX12_finding 1 (some (.int))) ({ frames := 0, cells := 0, slots := 0, locals := 0 }) (va_Pc [.ref h0] (fun U => U.heap.size = sz ∧ va_P (dC, dI) vwCl [(h0, .inr (15, [.int 0, .int 0, .ref h1, .int 0, .int (-1), .ref h2, .ref h3, .ref h4, .ref h5, .ref h6, .ref h7, .ref h8, .ref h9, .ref h10, .ref h11, .ref h12, .ref h13, .ref h14, .ref h15, .ref h16, .ref h17, .ref h18, .ref h19, .ref h20, .ref h21, .ref h22, .ref h23, .ref h24, .ref h25, .ref h26, .ref h27, .int 0, .ref h28, .ref h29, .int 0, .int 0, .int 0, .int 0, .int 0, .int 0, .ref h30, .int 0, .ref h31, .ref h32, .ref h33, .ref h34, .ref h35, .ref h36, .ref h37, .ref h38, .int 0, .int 0, .int 0, .int 0, .ref h39, .ref h40, .ref h41, .int 0, .ref h42, .int 0, .ref h43, .int 0, .int 0, .ref h44, .ref h45, .ref h46, .int 0, .ref h47, .ref h48, .ref h49, .ref h50, .ref h51, .ref h52, .ref h53, .int 0, .ref h54, .int 0, .ref h55, .ref h56, .ref h57, .int 0, .ref h58, .ref h59, .ref h60, .ref h61, .int 0, .ref h62, .ref h63, .ref h64, .ref h65, .int 0, .int 0, .int 0, .int 0, .int 0, .int 0, .int 0, .int 0, .int 0, .ref h66, .int 0, .ref h67, .int 0, .int 0, .int 0, .int 0, .int 0, .ref h68, .int 0, .int 0, .ref h69, .int 0, .ref h70, .int 0, .ref h71, .ref h72, .int 0, .ref h73, .ref h74, .ref h75, .ref h76, .long 0, .int 0, .ref h77, .ref h78, .ref h79, .ref h80, .ref h81, .ref h82, .ref h83, .ref h84, .ref h85, .ref h86, .ref h87, .ref h88, .ref h89, .ref h90, .ref h91, .int 0, .ref h92, .ref h93, .ref h94, .int 0]))] U.heap ∧ va_K (dC, dI) vwCl [] U ∧ va_D (fun _ => True) [(h0, .inr (15, [.int 0, .int 0, .ref h1, .int 0, .int (-1), .ref h2, .ref h3, .ref h4, .ref h5, .ref h6, .ref h7, .ref h8, .ref h9, .ref h10, .ref h11, .ref h12, .ref h13, .ref h14, .ref h15, .ref h16, .ref h17, .ref h18, .ref h19, .ref h20, .ref h21, .ref h22, .ref h23, .ref h24, .ref h25, .ref h26, .ref h27, .int 0, .ref h28, .ref h29, .int 0, .int 0, .int 0, .int 0, .int 0, .int 0, .ref h30, .int 0, .ref h31, .ref h32, .ref h33, .ref h34, .ref h35, .ref h36, .ref h37, .ref h38, .int 0, .int 0, .int 0, .int 0, .ref h39, .ref h40, .ref h41, .int 0, .ref h42, .int 0, .ref h43, .int 0, .int 0, .ref h44, .ref h45, .ref h46, .int 0, .ref h47, .ref h48, .ref h49, .ref h50, .ref h51, .ref h52, .ref h53, .int 0, .ref h54, .int 0, .ref h55, .ref h56, .ref h57, .int 0, .ref h58, .ref h59, .ref h60, .ref h61, .int 0, .ref h62, .ref h63, .ref h64, .ref h65, .int 0, .int 0, .int 0, .int 0, .int 0, .int 0, .int 0, .int 0, .int 0, .ref h66, .int 0, .ref h67, .int 0, .int 0, .int 0, .int 0, .int 0, .ref h68, .int 0, .int 0, .ref h69, .int 0, .ref h70, .int 0, .ref h71, .ref h72, .int 0, .ref h73, .ref h74, .ref h75, .ref h76, .long 0, .int 0, .ref h77, .ref h78, .ref h79, .ref h80, .ref h81, .ref h82, .ref h83, .ref h84, .ref h85, .ref h86, .ref h87, .ref h88, .ref h89, .ref h90, .ref h91, .int 0, .ref h92, .ref h93, .ref h94, .int 0]))])) (va_Qi (fun (r : Int32) (u : Nat) => (u = 0 ∧ r = 0)) (fun (_ : Nat) (t : State) => (va_P (dC, dI) vwCl [] t.heap ∧ va_K (dC, dI) vwCl [] t ∧ va_D (va_A [(h0, .inr (15, [.int 0, .int 0, .ref h1, .int 0, .int (-1), .ref h2, .ref h3, .ref h4, .ref h5, .ref h6, .ref h7, .ref h8, .ref h9, .ref h10, .ref h11, .ref h12, .ref h13, .ref h14, .ref h15, .ref h16, .ref h17, .ref h18, .ref h19, .ref h20, .ref h21, .ref h22, .ref h23, .ref h24, .ref h25, .ref h26, .ref h27, .int 0, .ref h28, .ref h29, .int 0, .int 0, .int 0, .int 0, .int 0, .int 0, .ref h30, .int 0, .ref h31, .ref h32, .ref h33, .ref h34, .ref h35, .ref h36, .ref h37, .ref h38, .int 0, .int 0, .int 0, .int 0, .ref h39, .ref h40, .ref h41, .int 0, .ref h42, .int 0, .ref h43, .int 0, .int 0, .ref h44, .ref h45, .ref h46, .int 0, .ref h47, .ref h48, .ref h49, .ref h50, .ref h51, .ref h52, .ref h53, .int 0, .ref h54, .int 0, .ref h55, .ref h56, .ref h57, .int 0, .ref h58, .ref h59, .ref h60, .ref h61, .int 0, .ref h62, .ref h63, .ref h64, .ref h65, .int 0, .int 0, .int 0, .int 0, .int 0, .int 0, .int 0, .int 0, .int 0, .ref h66, .int 0, .ref h67, .int 0, .int 0, .int 0, .int 0, .int 0, .ref h68, .int 0, .int 0, .ref h69, .int 0, .ref h70, .int 0, .ref h71, .ref h72, .int 0, .ref h73, .ref h74, .ref h75, .ref h76, .long 0, .int 0, .ref h77, .ref h78, .ref h79, .ref h80, .ref h81, .ref h82, .ref h83, .ref h84, .ref h85, .ref h86, .ref h87, .ref h88, .ref h89, .ref h90, .ref h91, .int 0, .ref h92, .ref h93, .ref h94, .int 0]))] sz) [])) (va_A [(h0, .inr (15, [.int 0, .int 0, .ref h1, .int 0, .int (-1), .ref h2, .ref h3, .ref h4, .ref h5, .ref h6, .ref h7, .ref h8, .ref h9, .ref h10, .ref h11, .ref h12, .ref h13, .ref h14, .ref h15, .ref h16, .ref h17, .ref h18, .ref h19, .ref h20, .ref h21, .ref h22, .ref h23, .ref h24, .ref h25, .ref h26, .ref h27, .int 0, .ref h28, .ref h29, .int 0, .int 0, .int 0, .int 0, .int 0, .int 0, .ref h30, .int 0, .ref h31, .ref h32, .ref h33, .ref h34, .ref h35, .ref h36, .ref h37, .ref h38, .int 0, .int 0, .int 0, .int 0, .ref h39, .ref h40, .ref h41, .int 0, .ref h42, .int 0, .ref h43, .int 0, .int 0, .ref h44, .ref h45, .ref h46, .int 0, .ref h47, .ref h48, .ref h49, .ref h50, .ref h51, .ref h52, .ref h53, .int 0, .ref h54, .int 0, .ref h55, .ref h56, .ref h57, .int 0, .ref h58, .ref h59, .ref h60, .ref h61, .int 0, .ref h62, .ref h63, .ref h64, .ref h65, .int 0, .int 0, .int 0, .int 0, .int 0, .int 0, .int 0, .int 0, .int 0, .ref h66, .int 0, .ref h67, .int 0, .int 0, .int 0, .int 0, .int 0, .ref h68, .int 0, .int 0, .ref h69, .int 0, .ref h70, .int 0, .ref h71, .ref h72, .int 0, .ref h73, .ref h74, .ref h75, .ref h76, .long 0, .int 0, .ref h77, .ref h78, .ref h79, .ref h80, .ref h81, .ref h82, .ref h83, .ref h84, .ref h85, .ref h86, .ref h87, .ref h88, .ref h89, .ref h90, .ref h91, .int 0, .ref h92, .ref h93, .ref h94, .int 0]))] sz)) 0 0 (va_A [(h0, .inr (15, [.int 0, .int 0, .ref h1, .int 0, .int (-1), .ref h2, .ref h3, .ref h4, .ref h5, .ref h6, .ref h7, .ref h8, .ref h9, .ref h10, .ref h11, .ref h12, .ref h13, .ref h14, .ref h15, .ref h16, .ref h17, .ref h18, .ref h19, .ref h20, .ref h21, .ref h22, .ref h23, .ref h24, .ref h25, .ref h26, .ref h27, .int 0, .ref h28, .ref h29, .int 0, .int 0, .int 0, .int 0, .int 0, .int 0, .ref h30, .int 0, .ref h31, .ref h32, .ref h33, .ref h34, .ref h35, .ref h36, .ref h37, .ref h38, .int 0, .int 0, .int 0, .int 0, .ref h39, .ref h40, .ref h41, .int 0, .ref h42, .int 0, .ref h43, .int 0, .int 0, .ref h44, .ref h45, .ref h46, .int 0, .ref h47, .ref h48, .ref h49, .ref h50, .ref h51, .ref h52, .ref h53, .int 0, .ref h54, .int 0, .ref h55, .ref h56, .ref h57, .int 0, .ref h58, .ref h59, .ref h60, .ref h61, .int 0, .ref h62, .ref h63, .ref h64, .ref h65, .int 0, .int 0, .int 0, .int 0, .int 0, .int 0, .int 0, .int 0, .int 0, .ref h66, .int 0, .ref h67, .int 0, .int 0, .int 0, .int 0, .int 0, .ref h68, .int 0, .int 0, .ref h69, .int 0, .ref h70, .int 0, .ref h71, .ref h72, .int 0, .ref h73, .ref h74, .ref h75, .ref h76, .long 0, .int 0, .ref h77, .ref h78, .ref h79, .ref h80, .ref h81, .ref h82, .ref h83, .ref h84, .ref h85, .ref h86, .ref h87, .ref h88, .ref h89, .ref h90, .ref h91, .int 0, .ref h92, .ref h93, .ref h94, .int 0]))] sz) := by
  refine Met.ofW (cc := cX12_finding) (maxL := 1) (ret := (some (.int))) (by decide) rfl ?_
  intro p e s m args below meth c s₁ B hml hv
  obtain ⟨rfl, hsz, hP, hK, hD0⟩ := hv
  have hx := B.exec
  have hb := B.bytes
  have hr := B.returns
  have hts := atoms_spec (ws := WS yX12_finding cX12_finding 1 (some (.int))) B.pre
  have ht : ∀ w ∈ TW, w.before _ s = true := fun w h => hts w (List.mem_cons_of_mem _ h)
  have hown : s.vm.findClass "PatternWorkshopModel" = some m.cls := findClass_of_methodNamed B.named
  have hlocks := B.notSynchronized
  subst hsz
  have hD := hD0.self (sz := s.heap.size)
  generalize hAe : va_A [(h0, .inr (15, [.int 0, .int 0, .ref h1, .int 0, .int (-1), .ref h2, .ref h3, .ref h4, .ref h5, .ref h6, .ref h7, .ref h8, .ref h9, .ref h10, .ref h11, .ref h12, .ref h13, .ref h14, .ref h15, .ref h16, .ref h17, .ref h18, .ref h19, .ref h20, .ref h21, .ref h22, .ref h23, .ref h24, .ref h25, .ref h26, .ref h27, .int 0, .ref h28, .ref h29, .int 0, .int 0, .int 0, .int 0, .int 0, .int 0, .ref h30, .int 0, .ref h31, .ref h32, .ref h33, .ref h34, .ref h35, .ref h36, .ref h37, .ref h38, .int 0, .int 0, .int 0, .int 0, .ref h39, .ref h40, .ref h41, .int 0, .ref h42, .int 0, .ref h43, .int 0, .int 0, .ref h44, .ref h45, .ref h46, .int 0, .ref h47, .ref h48, .ref h49, .ref h50, .ref h51, .ref h52, .ref h53, .int 0, .ref h54, .int 0, .ref h55, .ref h56, .ref h57, .int 0, .ref h58, .ref h59, .ref h60, .ref h61, .int 0, .ref h62, .ref h63, .ref h64, .ref h65, .int 0, .int 0, .int 0, .int 0, .int 0, .int 0, .int 0, .int 0, .int 0, .ref h66, .int 0, .ref h67, .int 0, .int 0, .int 0, .int 0, .int 0, .ref h68, .int 0, .int 0, .ref h69, .int 0, .ref h70, .int 0, .ref h71, .ref h72, .int 0, .ref h73, .ref h74, .ref h75, .ref h76, .long 0, .int 0, .ref h77, .ref h78, .ref h79, .ref h80, .ref h81, .ref h82, .ref h83, .ref h84, .ref h85, .ref h86, .ref h87, .ref h88, .ref h89, .ref h90, .ref h91, .int 0, .ref h92, .ref h93, .ref h94, .int 0]))] s.heap.size = A at hD ⊢
  have hA : ∀ q : Nat, s.heap.size ≤ q → A q := fun q h => by rw [← hAe]; exact Or.inr h
  have hS : va_S A s.heap s.heap [] := va_S.rf
  have hP : va_P (dC, dI) vwCl [(h0, .inr (15, [.int 0, .int 0, .ref h1, .int 0, .int (-1), .ref h2, .ref h3, .ref h4, .ref h5, .ref h6, .ref h7, .ref h8, .ref h9, .ref h10, .ref h11, .ref h12, .ref h13, .ref h14, .ref h15, .ref h16, .ref h17, .ref h18, .ref h19, .ref h20, .ref h21, .ref h22, .ref h23, .ref h24, .ref h25, .ref h26, .ref h27, .int 0, .ref h28, .ref h29, .int 0, .int 0, .int 0, .int 0, .int 0, .int 0, .ref h30, .int 0, .ref h31, .ref h32, .ref h33, .ref h34, .ref h35, .ref h36, .ref h37, .ref h38, .int 0, .int 0, .int 0, .int 0, .ref h39, .ref h40, .ref h41, .int 0, .ref h42, .int 0, .ref h43, .int 0, .int 0, .ref h44, .ref h45, .ref h46, .int 0, .ref h47, .ref h48, .ref h49, .ref h50, .ref h51, .ref h52, .ref h53, .int 0, .ref h54, .int 0, .ref h55, .ref h56, .ref h57, .int 0, .ref h58, .ref h59, .ref h60, .ref h61, .int 0, .ref h62, .ref h63, .ref h64, .ref h65, .int 0, .int 0, .int 0, .int 0, .int 0, .int 0, .int 0, .int 0, .int 0, .ref h66, .int 0, .ref h67, .int 0, .int 0, .int 0, .int 0, .int 0, .ref h68, .int 0, .int 0, .ref h69, .int 0, .ref h70, .int 0, .ref h71, .ref h72, .int 0, .ref h73, .ref h74, .ref h75, .ref h76, .long 0, .int 0, .ref h77, .ref h78, .ref h79, .ref h80, .ref h81, .ref h82, .ref h83, .ref h84, .ref h85, .ref h86, .ref h87, .ref h88, .ref h89, .ref h90, .ref h91, .int 0, .ref h92, .ref h93, .ref h94, .int 0]))] s.heap := hP
  have hl := lv_entry ([.ref h0]) (n := 1) (Nat.le_of_ble_eq_true rfl)
  rw [lg_entry_eq]
  generalize (lg_sl ([.ref h0]) ++ List.replicate (1 - (lg_sl ([.ref h0])).length) Slot.unset).toArray = ls at hl ⊢
  have hl : lv_has ls 1 [(0, .ref h0)] := hl
  clear hD0
  refine lv_aload_n hx hb dX12_finding_0 rfl (lv_at hl 0 rfl) ?_
  refine lv_iconst (v := 0) hx hb dX12_finding_1 (by decide) ?_
  refine va_put (D := (dC, dI)) (ci := 15) (v := .int 0) (ty := .int) (C := RX12) (T := TX12) (N := 143) hx hb ht inX12 tyX12 tyX12_ok nmX12 hown hK hP hD hS 0 rfl rfl 0 (by decide) (ht _ tw_2140) (fun _ h9 => h9) rfl (by decide +kernel) rfl rfl (Nat.le_of_ble_eq_true rfl) dX12_finding_2 (fun H_1 locs_1 hP_1 hD_1 hS_1 => ?_)
  have hP_1 : va_P (dC, dI) vwCl [(h0, .inr (15, [.int 0, .int 0, .ref h1, .int 0, .int (-1), .ref h2, .ref h3, .ref h4, .ref h5, .ref h6, .ref h7, .ref h8, .ref h9, .ref h10, .ref h11, .ref h12, .ref h13, .ref h14, .ref h15, .ref h16, .ref h17, .ref h18, .ref h19, .ref h20, .ref h21, .ref h22, .ref h23, .ref h24, .ref h25, .ref h26, .ref h27, .int 0, .ref h28, .ref h29, .int 0, .int 0, .int 0, .int 0, .int 0, .int 0, .ref h30, .int 0, .ref h31, .ref h32, .ref h33, .ref h34, .ref h35, .ref h36, .ref h37, .ref h38, .int 0, .int 0, .int 0, .int 0, .ref h39, .ref h40, .ref h41, .int 0, .ref h42, .int 0, .ref h43, .int 0, .int 0, .ref h44, .ref h45, .ref h46, .int 0, .ref h47, .ref h48, .ref h49, .ref h50, .ref h51, .ref h52, .ref h53, .int 0, .ref h54, .int 0, .ref h55, .ref h56, .ref h57, .int 0, .ref h58, .ref h59, .ref h60, .ref h61, .int 0, .ref h62, .ref h63, .ref h64, .ref h65, .int 0, .int 0, .int 0, .int 0, .int 0, .int 0, .int 0, .int 0, .int 0, .ref h66, .int 0, .ref h67, .int 0, .int 0, .int 0, .int 0, .int 0, .ref h68, .int 0, .int 0, .ref h69, .int 0, .ref h70, .int 0, .ref h71, .ref h72, .int 0, .ref h73, .ref h74, .ref h75, .ref h76, .long 0, .int 0, .ref h77, .ref h78, .ref h79, .ref h80, .ref h81, .ref h82, .ref h83, .ref h84, .ref h85, .ref h86, .ref h87, .ref h88, .ref h89, .ref h90, .ref h91, .int 0, .ref h92, .ref h93, .ref h94, .int 0]))] H_1 := hP_1
  have hD_1 : va_D A [(h0, .inr (15, [.int 0, .int 0, .ref h1, .int 0, .int (-1), .ref h2, .ref h3, .ref h4, .ref h5, .ref h6, .ref h7, .ref h8, .ref h9, .ref h10, .ref h11, .ref h12, .ref h13, .ref h14, .ref h15, .ref h16, .ref h17, .ref h18, .ref h19, .ref h20, .ref h21, .ref h22, .ref h23, .ref h24, .ref h25, .ref h26, .ref h27, .int 0, .ref h28, .ref h29, .int 0, .int 0, .int 0, .int 0, .int 0, .int 0, .ref h30, .int 0, .ref h31, .ref h32, .ref h33, .ref h34, .ref h35, .ref h36, .ref h37, .ref h38, .int 0, .int 0, .int 0, .int 0, .ref h39, .ref h40, .ref h41, .int 0, .ref h42, .int 0, .ref h43, .int 0, .int 0, .ref h44, .ref h45, .ref h46, .int 0, .ref h47, .ref h48, .ref h49, .ref h50, .ref h51, .ref h52, .ref h53, .int 0, .ref h54, .int 0, .ref h55, .ref h56, .ref h57, .int 0, .ref h58, .ref h59, .ref h60, .ref h61, .int 0, .ref h62, .ref h63, .ref h64, .ref h65, .int 0, .int 0, .int 0, .int 0, .int 0, .int 0, .int 0, .int 0, .int 0, .ref h66, .int 0, .ref h67, .int 0, .int 0, .int 0, .int 0, .int 0, .ref h68, .int 0, .int 0, .ref h69, .int 0, .ref h70, .int 0, .ref h71, .ref h72, .int 0, .ref h73, .ref h74, .ref h75, .ref h76, .long 0, .int 0, .ref h77, .ref h78, .ref h79, .ref h80, .ref h81, .ref h82, .ref h83, .ref h84, .ref h85, .ref h86, .ref h87, .ref h88, .ref h89, .ref h90, .ref h91, .int 0, .ref h92, .ref h93, .ref h94, .int 0]))] := hD_1
  clear hP hD hS
  refine lv_aload_n hx hb dX12_finding_5 rfl (lv_at hl 0 rfl) ?_
  refine va_get (D := (dC, dI)) (ci := 15) (v := .int 0) (C := RX12) (T := TX12) (N := 143) hx hb ht inX12 hown hK hP_1 0 rfl rfl 1 (by decide) (ht _ tw_2141) (fun _ h9 => h9) rfl dX12_finding_6 ?_
  have hP9 := hP_1.sub (ws' := []) [] rfl
  have hD9 := hD_1.sub (ws' := []) [] (by decide) rfl
  have hK9 := hK.sub (tys' := []) [] rfl
  refine W.widen (k := 0) (n := 0) (by decide) (by decide) ?_
  exact W.iret (v := 0) hx hb hr (fun t9 ht9 hW9 => ⟨⟨0, 0, rfl, ⟨rfl, rfl⟩, ⟨by rw [ht9]; exact hP9, va_K.moved hW9.alike hK9, hD9⟩⟩, hS_1.F ht9⟩) hS_1.2.2 dX12_finding_9
set_option maxHeartbeats 4000000 in
set_option maxRecDepth 100000 in
theorem mt_X12_told (l : Launch) (dC : Nat → ClassId) (dI : Nat → Nat → Nat) (h0 h1 h2 h3 h4 h5 h6 h7 h8 h9 h10 h11 h12 h13 h14 h15 h16 h17 h18 h19 h20 h21 h22 h23 h24 h25 h26 h27 h28 h29 h30 h31 h32 h33 h34 h35 h36 h37 h38 h39 h40 h41 h42 h43 h44 h45 h46 h47 h48 h49 h50 h51 h52 h53 h54 h55 h56 h57 h58 h59 h60 h61 h62 h63 h64 h65 h66 h67 h68 h69 h70 h71 h72 h73 h74 h75 h76 h77 h78 h79 h80 h81 h82 h83 h84 h85 h86 h87 h88 h89 h90 h91 h92 h93 h94 : Nat) (k0 k1 : ClassId) (p0 : Int32) (sz : Nat) : Met l yX12_told (WS yX12_told cX12_told 5 (some (.int))) ({ frames := 0, cells := 0, slots := 0, locals := 0 }) (va_Pc [.ref h0, .int p0] (fun U => U.heap.size = sz ∧ va_P (dC, dI) vwCl [(h0, .inr (15, [.int 0, .int 0, .ref h1, .int 0, .int (-1), .ref h2, .ref h3, .ref h4, .ref h5, .ref h6, .ref h7, .ref h8, .ref h9, .ref h10, .ref h11, .ref h12, .ref h13, .ref h14, .ref h15, .ref h16, .ref h17, .ref h18, .ref h19, .ref h20, .ref h21, .ref h22, .ref h23, .ref h24, .ref h25, .ref h26, .ref h27, .int 0, .ref h28, .ref h29, .int 0, .int 0, .int 0, .int 0, .int 0, .int 0, .ref h30, .int 0, .ref h31, .ref h32, .ref h33, .ref h34, .ref h35, .ref h36, .ref h37, .ref h38, .int 0, .int 0, .int 0, .int 0, .ref h39, .ref h40, .ref h41, .int 0, .ref h42, .int 0, .ref h43, .int 0, .int 0, .ref h44, .ref h45, .ref h46, .int 0, .ref h47, .ref h48, .ref h49, .ref h50, .ref h51, .ref h52, .ref h53, .int 0, .ref h54, .int 0, .ref h55, .ref h56, .ref h57, .int 0, .ref h58, .ref h59, .ref h60, .ref h61, .int 0, .ref h62, .ref h63, .ref h64, .ref h65, .int 0, .int 0, .int 0, .int 0, .int 0, .int 0, .int 0, .int 0, .int 0, .ref h66, .int 0, .ref h67, .int 0, .int 0, .int 0, .int 0, .int 0, .ref h68, .int 0, .int 0, .ref h69, .int 0, .ref h70, .int 0, .ref h71, .ref h72, .int 0, .ref h73, .ref h74, .ref h75, .ref h76, .long 0, .int 0, .ref h77, .ref h78, .ref h79, .ref h80, .ref h81, .ref h82, .ref h83, .ref h84, .ref h85, .ref h86, .ref h87, .ref h88, .ref h89, .ref h90, .ref h91, .int 0, .ref h92, .ref h93, .ref h94, .int 0])), (h2, .inl (k0, 6, .inl (fun _ => 0))), (h48, .inl (k1, 4, .inl (fun _ => 0)))] U.heap ∧ va_K (dC, dI) vwCl [(k0, .boolean), (k1, .boolean)] U ∧ va_D (fun _ => True) [(h0, .inr (15, [.int 0, .int 0, .ref h1, .int 0, .int (-1), .ref h2, .ref h3, .ref h4, .ref h5, .ref h6, .ref h7, .ref h8, .ref h9, .ref h10, .ref h11, .ref h12, .ref h13, .ref h14, .ref h15, .ref h16, .ref h17, .ref h18, .ref h19, .ref h20, .ref h21, .ref h22, .ref h23, .ref h24, .ref h25, .ref h26, .ref h27, .int 0, .ref h28, .ref h29, .int 0, .int 0, .int 0, .int 0, .int 0, .int 0, .ref h30, .int 0, .ref h31, .ref h32, .ref h33, .ref h34, .ref h35, .ref h36, .ref h37, .ref h38, .int 0, .int 0, .int 0, .int 0, .ref h39, .ref h40, .ref h41, .int 0, .ref h42, .int 0, .ref h43, .int 0, .int 0, .ref h44, .ref h45, .ref h46, .int 0, .ref h47, .ref h48, .ref h49, .ref h50, .ref h51, .ref h52, .ref h53, .int 0, .ref h54, .int 0, .ref h55, .ref h56, .ref h57, .int 0, .ref h58, .ref h59, .ref h60, .ref h61, .int 0, .ref h62, .ref h63, .ref h64, .ref h65, .int 0, .int 0, .int 0, .int 0, .int 0, .int 0, .int 0, .int 0, .int 0, .ref h66, .int 0, .ref h67, .int 0, .int 0, .int 0, .int 0, .int 0, .ref h68, .int 0, .int 0, .ref h69, .int 0, .ref h70, .int 0, .ref h71, .ref h72, .int 0, .ref h73, .ref h74, .ref h75, .ref h76, .long 0, .int 0, .ref h77, .ref h78, .ref h79, .ref h80, .ref h81, .ref h82, .ref h83, .ref h84, .ref h85, .ref h86, .ref h87, .ref h88, .ref h89, .ref h90, .ref h91, .int 0, .ref h92, .ref h93, .ref h94, .int 0])), (h2, .inl (k0, 6, .inl (fun _ => 0))), (h48, .inl (k1, 4, .inl (fun _ => 0)))])) (va_Qi (fun (r : Int32) (u : Nat) => (u = 0 ∧ r = (-4) ∧ ((p0.toInt < 0 ∨ 6 < p0.toInt))) ∨ (u = 1 ∧ r = 0 ∧ (¬ (p0.toInt < 0 ∨ 6 < p0.toInt)))) (fun (_ : Nat) (t : State) => (va_P (dC, dI) vwCl [] t.heap ∧ va_K (dC, dI) vwCl [] t ∧ va_D (va_A [(h0, .inr (15, [.int 0, .int 0, .ref h1, .int 0, .int (-1), .ref h2, .ref h3, .ref h4, .ref h5, .ref h6, .ref h7, .ref h8, .ref h9, .ref h10, .ref h11, .ref h12, .ref h13, .ref h14, .ref h15, .ref h16, .ref h17, .ref h18, .ref h19, .ref h20, .ref h21, .ref h22, .ref h23, .ref h24, .ref h25, .ref h26, .ref h27, .int 0, .ref h28, .ref h29, .int 0, .int 0, .int 0, .int 0, .int 0, .int 0, .ref h30, .int 0, .ref h31, .ref h32, .ref h33, .ref h34, .ref h35, .ref h36, .ref h37, .ref h38, .int 0, .int 0, .int 0, .int 0, .ref h39, .ref h40, .ref h41, .int 0, .ref h42, .int 0, .ref h43, .int 0, .int 0, .ref h44, .ref h45, .ref h46, .int 0, .ref h47, .ref h48, .ref h49, .ref h50, .ref h51, .ref h52, .ref h53, .int 0, .ref h54, .int 0, .ref h55, .ref h56, .ref h57, .int 0, .ref h58, .ref h59, .ref h60, .ref h61, .int 0, .ref h62, .ref h63, .ref h64, .ref h65, .int 0, .int 0, .int 0, .int 0, .int 0, .int 0, .int 0, .int 0, .int 0, .ref h66, .int 0, .ref h67, .int 0, .int 0, .int 0, .int 0, .int 0, .ref h68, .int 0, .int 0, .ref h69, .int 0, .ref h70, .int 0, .ref h71, .ref h72, .int 0, .ref h73, .ref h74, .ref h75, .ref h76, .long 0, .int 0, .ref h77, .ref h78, .ref h79, .ref h80, .ref h81, .ref h82, .ref h83, .ref h84, .ref h85, .ref h86, .ref h87, .ref h88, .ref h89, .ref h90, .ref h91, .int 0, .ref h92, .ref h93, .ref h94, .int 0])), (h2, .inl (k0, 6, .inl (fun _ => 0))), (h48, .inl (k1, 4, .inl (fun _ => 0)))] sz) [])) (va_A [(h0, .inr (15, [.int 0, .int 0, .ref h1, .int 0, .int (-1), .ref h2, .ref h3, .ref h4, .ref h5, .ref h6, .ref h7, .ref h8, .ref h9, .ref h10, .ref h11, .ref h12, .ref h13, .ref h14, .ref h15, .ref h16, .ref h17, .ref h18, .ref h19, .ref h20, .ref h21, .ref h22, .ref h23, .ref h24, .ref h25, .ref h26, .ref h27, .int 0, .ref h28, .ref h29, .int 0, .int 0, .int 0, .int 0, .int 0, .int 0, .ref h30, .int 0, .ref h31, .ref h32, .ref h33, .ref h34, .ref h35, .ref h36, .ref h37, .ref h38, .int 0, .int 0, .int 0, .int 0, .ref h39, .ref h40, .ref h41, .int 0, .ref h42, .int 0, .ref h43, .int 0, .int 0, .ref h44, .ref h45, .ref h46, .int 0, .ref h47, .ref h48, .ref h49, .ref h50, .ref h51, .ref h52, .ref h53, .int 0, .ref h54, .int 0, .ref h55, .ref h56, .ref h57, .int 0, .ref h58, .ref h59, .ref h60, .ref h61, .int 0, .ref h62, .ref h63, .ref h64, .ref h65, .int 0, .int 0, .int 0, .int 0, .int 0, .int 0, .int 0, .int 0, .int 0, .ref h66, .int 0, .ref h67, .int 0, .int 0, .int 0, .int 0, .int 0, .ref h68, .int 0, .int 0, .ref h69, .int 0, .ref h70, .int 0, .ref h71, .ref h72, .int 0, .ref h73, .ref h74, .ref h75, .ref h76, .long 0, .int 0, .ref h77, .ref h78, .ref h79, .ref h80, .ref h81, .ref h82, .ref h83, .ref h84, .ref h85, .ref h86, .ref h87, .ref h88, .ref h89, .ref h90, .ref h91, .int 0, .ref h92, .ref h93, .ref h94, .int 0])), (h2, .inl (k0, 6, .inl (fun _ => 0))), (h48, .inl (k1, 4, .inl (fun _ => 0)))] sz)) 0 0 (va_A [(h0, .inr (15, [.int 0, .int 0, .ref h1, .int 0, .int (-1), .ref h2, .ref h3, .ref h4, .ref h5, .ref h6, .ref h7, .ref h8, .ref h9, .ref h10, .ref h11, .ref h12, .ref h13, .ref h14, .ref h15, .ref h16, .ref h17, .ref h18, .ref h19, .ref h20, .ref h21, .ref h22, .ref h23, .ref h24, .ref h25, .ref h26, .ref h27, .int 0, .ref h28, .ref h29, .int 0, .int 0, .int 0, .int 0, .int 0, .int 0, .ref h30, .int 0, .ref h31, .ref h32, .ref h33, .ref h34, .ref h35, .ref h36, .ref h37, .ref h38, .int 0, .int 0, .int 0, .int 0, .ref h39, .ref h40, .ref h41, .int 0, .ref h42, .int 0, .ref h43, .int 0, .int 0, .ref h44, .ref h45, .ref h46, .int 0, .ref h47, .ref h48, .ref h49, .ref h50, .ref h51, .ref h52, .ref h53, .int 0, .ref h54, .int 0, .ref h55, .ref h56, .ref h57, .int 0, .ref h58, .ref h59, .ref h60, .ref h61, .int 0, .ref h62, .ref h63, .ref h64, .ref h65, .int 0, .int 0, .int 0, .int 0, .int 0, .int 0, .int 0, .int 0, .int 0, .ref h66, .int 0, .ref h67, .int 0, .int 0, .int 0, .int 0, .int 0, .ref h68, .int 0, .int 0, .ref h69, .int 0, .ref h70, .int 0, .ref h71, .ref h72, .int 0, .ref h73, .ref h74, .ref h75, .ref h76, .long 0, .int 0, .ref h77, .ref h78, .ref h79, .ref h80, .ref h81, .ref h82, .ref h83, .ref h84, .ref h85, .ref h86, .ref h87, .ref h88, .ref h89, .ref h90, .ref h91, .int 0, .ref h92, .ref h93, .ref h94, .int 0])), (h2, .inl (k0, 6, .inl (fun _ => 0))), (h48, .inl (k1, 4, .inl (fun _ => 0)))] sz) := by
  refine Met.ofW (cc := cX12_told) (maxL := 5) (ret := (some (.int))) (by decide) rfl ?_
  intro p e s m args below meth c s₁ B hml hv
  obtain ⟨rfl, hsz, hP, hK, hD0⟩ := hv
  have hx := B.exec
  have hb := B.bytes
  have hr := B.returns
  have hts := atoms_spec (ws := WS yX12_told cX12_told 5 (some (.int))) B.pre
  have ht : ∀ w ∈ TW, w.before _ s = true := fun w h => hts w (List.mem_cons_of_mem _ h)
  have hown : s.vm.findClass "PatternWorkshopModel" = some m.cls := findClass_of_methodNamed B.named
  have hlocks := B.notSynchronized
  subst hsz
  have hD := hD0.self (sz := s.heap.size)
  generalize hAe : va_A [(h0, .inr (15, [.int 0, .int 0, .ref h1, .int 0, .int (-1), .ref h2, .ref h3, .ref h4, .ref h5, .ref h6, .ref h7, .ref h8, .ref h9, .ref h10, .ref h11, .ref h12, .ref h13, .ref h14, .ref h15, .ref h16, .ref h17, .ref h18, .ref h19, .ref h20, .ref h21, .ref h22, .ref h23, .ref h24, .ref h25, .ref h26, .ref h27, .int 0, .ref h28, .ref h29, .int 0, .int 0, .int 0, .int 0, .int 0, .int 0, .ref h30, .int 0, .ref h31, .ref h32, .ref h33, .ref h34, .ref h35, .ref h36, .ref h37, .ref h38, .int 0, .int 0, .int 0, .int 0, .ref h39, .ref h40, .ref h41, .int 0, .ref h42, .int 0, .ref h43, .int 0, .int 0, .ref h44, .ref h45, .ref h46, .int 0, .ref h47, .ref h48, .ref h49, .ref h50, .ref h51, .ref h52, .ref h53, .int 0, .ref h54, .int 0, .ref h55, .ref h56, .ref h57, .int 0, .ref h58, .ref h59, .ref h60, .ref h61, .int 0, .ref h62, .ref h63, .ref h64, .ref h65, .int 0, .int 0, .int 0, .int 0, .int 0, .int 0, .int 0, .int 0, .int 0, .ref h66, .int 0, .ref h67, .int 0, .int 0, .int 0, .int 0, .int 0, .ref h68, .int 0, .int 0, .ref h69, .int 0, .ref h70, .int 0, .ref h71, .ref h72, .int 0, .ref h73, .ref h74, .ref h75, .ref h76, .long 0, .int 0, .ref h77, .ref h78, .ref h79, .ref h80, .ref h81, .ref h82, .ref h83, .ref h84, .ref h85, .ref h86, .ref h87, .ref h88, .ref h89, .ref h90, .ref h91, .int 0, .ref h92, .ref h93, .ref h94, .int 0])), (h2, .inl (k0, 6, .inl (fun _ => 0))), (h48, .inl (k1, 4, .inl (fun _ => 0)))] s.heap.size = A at hD ⊢
  have hA : ∀ q : Nat, s.heap.size ≤ q → A q := fun q h => by rw [← hAe]; exact Or.inr h
  have hS : va_S A s.heap s.heap [] := va_S.rf
  have hP : va_P (dC, dI) vwCl [(h0, .inr (15, [.int 0, .int 0, .ref h1, .int 0, .int (-1), .ref h2, .ref h3, .ref h4, .ref h5, .ref h6, .ref h7, .ref h8, .ref h9, .ref h10, .ref h11, .ref h12, .ref h13, .ref h14, .ref h15, .ref h16, .ref h17, .ref h18, .ref h19, .ref h20, .ref h21, .ref h22, .ref h23, .ref h24, .ref h25, .ref h26, .ref h27, .int 0, .ref h28, .ref h29, .int 0, .int 0, .int 0, .int 0, .int 0, .int 0, .ref h30, .int 0, .ref h31, .ref h32, .ref h33, .ref h34, .ref h35, .ref h36, .ref h37, .ref h38, .int 0, .int 0, .int 0, .int 0, .ref h39, .ref h40, .ref h41, .int 0, .ref h42, .int 0, .ref h43, .int 0, .int 0, .ref h44, .ref h45, .ref h46, .int 0, .ref h47, .ref h48, .ref h49, .ref h50, .ref h51, .ref h52, .ref h53, .int 0, .ref h54, .int 0, .ref h55, .ref h56, .ref h57, .int 0, .ref h58, .ref h59, .ref h60, .ref h61, .int 0, .ref h62, .ref h63, .ref h64, .ref h65, .int 0, .int 0, .int 0, .int 0, .int 0, .int 0, .int 0, .int 0, .int 0, .ref h66, .int 0, .ref h67, .int 0, .int 0, .int 0, .int 0, .int 0, .ref h68, .int 0, .int 0, .ref h69, .int 0, .ref h70, .int 0, .ref h71, .ref h72, .int 0, .ref h73, .ref h74, .ref h75, .ref h76, .long 0, .int 0, .ref h77, .ref h78, .ref h79, .ref h80, .ref h81, .ref h82, .ref h83, .ref h84, .ref h85, .ref h86, .ref h87, .ref h88, .ref h89, .ref h90, .ref h91, .int 0, .ref h92, .ref h93, .ref h94, .int 0])), (h2, .inl (k0, 6, .inl (fun _ => 0))), (h48, .inl (k1, 4, .inl (fun _ => 0)))] s.heap := hP
  have hl := lv_entry ([.ref h0, .int p0]) (n := 5) (Nat.le_of_ble_eq_true rfl)
  rw [lg_entry_eq]
  generalize (lg_sl ([.ref h0, .int p0]) ++ List.replicate (5 - (lg_sl ([.ref h0, .int p0])).length) Slot.unset).toArray = ls at hl ⊢
  have hl : lv_has ls 5 [(0, .ref h0), (1, .int p0)] := hl
  clear hD0
  refine lv_aload_n hx hb dX12_told_0 rfl (lv_at hl 0 rfl) ?_
  refine lv_iconst (v := 0) hx hb dX12_told_1 (by decide) ?_
  refine va_put (D := (dC, dI)) (ci := 15) (v := .int 0) (ty := .int) (C := RX12) (T := TX12) (N := 143) hx hb ht inX12 tyX12 tyX12_ok nmX12 hown hK hP hD hS 0 rfl rfl 0 (by decide) (ht _ tw_2140) (fun _ h9 => h9) rfl (by decide +kernel) rfl rfl (Nat.le_of_ble_eq_true rfl) dX12_told_2 (fun H_1 locs_1 hP_1 hD_1 hS_1 => ?_)
  have hP_1 : va_P (dC, dI) vwCl [(h0, .inr (15, [.int 0, .int 0, .ref h1, .int 0, .int (-1), .ref h2, .ref h3, .ref h4, .ref h5, .ref h6, .ref h7, .ref h8, .ref h9, .ref h10, .ref h11, .ref h12, .ref h13, .ref h14, .ref h15, .ref h16, .ref h17, .ref h18, .ref h19, .ref h20, .ref h21, .ref h22, .ref h23, .ref h24, .ref h25, .ref h26, .ref h27, .int 0, .ref h28, .ref h29, .int 0, .int 0, .int 0, .int 0, .int 0, .int 0, .ref h30, .int 0, .ref h31, .ref h32, .ref h33, .ref h34, .ref h35, .ref h36, .ref h37, .ref h38, .int 0, .int 0, .int 0, .int 0, .ref h39, .ref h40, .ref h41, .int 0, .ref h42, .int 0, .ref h43, .int 0, .int 0, .ref h44, .ref h45, .ref h46, .int 0, .ref h47, .ref h48, .ref h49, .ref h50, .ref h51, .ref h52, .ref h53, .int 0, .ref h54, .int 0, .ref h55, .ref h56, .ref h57, .int 0, .ref h58, .ref h59, .ref h60, .ref h61, .int 0, .ref h62, .ref h63, .ref h64, .ref h65, .int 0, .int 0, .int 0, .int 0, .int 0, .int 0, .int 0, .int 0, .int 0, .ref h66, .int 0, .ref h67, .int 0, .int 0, .int 0, .int 0, .int 0, .ref h68, .int 0, .int 0, .ref h69, .int 0, .ref h70, .int 0, .ref h71, .ref h72, .int 0, .ref h73, .ref h74, .ref h75, .ref h76, .long 0, .int 0, .ref h77, .ref h78, .ref h79, .ref h80, .ref h81, .ref h82, .ref h83, .ref h84, .ref h85, .ref h86, .ref h87, .ref h88, .ref h89, .ref h90, .ref h91, .int 0, .ref h92, .ref h93, .ref h94, .int 0])), (h2, .inl (k0, 6, .inl (fun _ => 0))), (h48, .inl (k1, 4, .inl (fun _ => 0)))] H_1 := hP_1
  have hD_1 : va_D A [(h0, .inr (15, [.int 0, .int 0, .ref h1, .int 0, .int (-1), .ref h2, .ref h3, .ref h4, .ref h5, .ref h6, .ref h7, .ref h8, .ref h9, .ref h10, .ref h11, .ref h12, .ref h13, .ref h14, .ref h15, .ref h16, .ref h17, .ref h18, .ref h19, .ref h20, .ref h21, .ref h22, .ref h23, .ref h24, .ref h25, .ref h26, .ref h27, .int 0, .ref h28, .ref h29, .int 0, .int 0, .int 0, .int 0, .int 0, .int 0, .ref h30, .int 0, .ref h31, .ref h32, .ref h33, .ref h34, .ref h35, .ref h36, .ref h37, .ref h38, .int 0, .int 0, .int 0, .int 0, .ref h39, .ref h40, .ref h41, .int 0, .ref h42, .int 0, .ref h43, .int 0, .int 0, .ref h44, .ref h45, .ref h46, .int 0, .ref h47, .ref h48, .ref h49, .ref h50, .ref h51, .ref h52, .ref h53, .int 0, .ref h54, .int 0, .ref h55, .ref h56, .ref h57, .int 0, .ref h58, .ref h59, .ref h60, .ref h61, .int 0, .ref h62, .ref h63, .ref h64, .ref h65, .int 0, .int 0, .int 0, .int 0, .int 0, .int 0, .int 0, .int 0, .int 0, .ref h66, .int 0, .ref h67, .int 0, .int 0, .int 0, .int 0, .int 0, .ref h68, .int 0, .int 0, .ref h69, .int 0, .ref h70, .int 0, .ref h71, .ref h72, .int 0, .ref h73, .ref h74, .ref h75, .ref h76, .long 0, .int 0, .ref h77, .ref h78, .ref h79, .ref h80, .ref h81, .ref h82, .ref h83, .ref h84, .ref h85, .ref h86, .ref h87, .ref h88, .ref h89, .ref h90, .ref h91, .int 0, .ref h92, .ref h93, .ref h94, .int 0])), (h2, .inl (k0, 6, .inl (fun _ => 0))), (h48, .inl (k1, 4, .inl (fun _ => 0)))] := hD_1
  clear hP hD hS
  refine lv_iconst (v := 0) hx hb dX12_told_5 (by decide) ?_
  refine lv_istore_n (lv' := [(2, .int 0), (0, .ref h0), (1, .int p0)]) hx hb dX12_told_6 rfl hl (by decide) rfl (fun ls_2 hl_2 => ?_)
  clear hl
  refine lv_iconst (v := 0) hx hb dX12_told_7 (by decide) ?_
  refine lv_istore_n (lv' := [(3, .int 0), (2, .int 0), (0, .ref h0), (1, .int p0)]) hx hb dX12_told_8 rfl hl_2 (by decide) rfl (fun ls_3 hl_3 => ?_)
  clear hl_2
  refine lv_iload_n hx hb dX12_told_9 rfl (lv_at hl_3 0 rfl) ?_
  refine lv_bipush (v := 6) hx hb dX12_told_10 (by decide) ?_
  refine lv_icmp_ge (tgt := 38) hx hb dX12_told_12 (by decide) (fun c_ => absurd c_ (by decide)) (fun _ => ?_)
  refine lv_iload_n hx hb dX12_told_15 rfl (lv_at hl_3 1 rfl) ?_
  refine lv_aload_n hx hb dX12_told_16 rfl (lv_at hl_3 2 rfl) ?_
  refine va_get (D := (dC, dI)) (ci := 15) (v := .ref h2) (C := RX12) (T := TX12) (N := 143) hx hb ht inX12 hown hK hP_1 0 rfl rfl 5 (by decide) (ht _ tw_2145) (fun _ h9 => h9) rfl dX12_told_17 ?_
  refine lv_iload_n hx hb dX12_told_20 rfl (lv_at hl_3 0 rfl) ?_
  refine va_zald hx hb hK hP_1 1 0 rfl rfl (i := 0) (vpi (by decide)) dX12_told_21 ?_
  refine W.eq (g2 := F0 m 22 ls_3 [.int 0, .int 0]) rfl ?_
  refine lv_if_eq (tgt := 29) hx hb dX12_told_22 (by decide) (fun _ => ?_) (fun c_ => absurd (by decide) c_)
  refine lv_iconst (v := 0) hx hb dX12_told_29 (by decide) ?_
  refine lv_iadd hx hb dX12_told_30 ?_
  refine lv_topi (fun x_4 ex_4 => ?_)
  obtain rfl : x_4 = 0 := ex_4.trans (by decide)
  refine lv_istore_n (lv' := [(2, .int 0), (3, .int 0), (0, .ref h0), (1, .int p0)]) hx hb dX12_told_31 rfl hl_3 (by decide) rfl (fun ls_5 hl_5 => ?_)
  clear hl_3
  refine lv_iinc (v := 1) (lv' := [(3, .int 1), (2, .int 0), (0, .ref h0), (1, .int p0)]) hx hb dX12_told_32 hl_5 (k := 1) rfl (by decide) (by decide) rfl (fun ls_6 hl_6 => ?_)
  clear hl_5
  refine lv_goto (tgt := 9) hx hb dX12_told_35 (by decide) ?_
  refine lv_iload_n hx hb dX12_told_9 rfl (lv_at hl_6 0 rfl) ?_
  refine lv_bipush (v := 6) hx hb dX12_told_10 (by decide) ?_
  refine lv_icmp_ge (tgt := 38) hx hb dX12_told_12 (by decide) (fun c_ => absurd c_ (by decide)) (fun _ => ?_)
  refine lv_iload_n hx hb dX12_told_15 rfl (lv_at hl_6 1 rfl) ?_
  refine lv_aload_n hx hb dX12_told_16 rfl (lv_at hl_6 2 rfl) ?_
  refine va_get (D := (dC, dI)) (ci := 15) (v := .ref h2) (C := RX12) (T := TX12) (N := 143) hx hb ht inX12 hown hK hP_1 0 rfl rfl 5 (by decide) (ht _ tw_2145) (fun _ h9 => h9) rfl dX12_told_17 ?_
  refine lv_iload_n hx hb dX12_told_20 rfl (lv_at hl_6 0 rfl) ?_
  refine va_zald hx hb hK hP_1 1 0 rfl rfl (i := 1) (vpi (by decide)) dX12_told_21 ?_
  refine W.eq (g2 := F0 m 22 ls_6 [.int 0, .int 0]) rfl ?_
  refine lv_if_eq (tgt := 29) hx hb dX12_told_22 (by decide) (fun _ => ?_) (fun c_ => absurd (by decide) c_)
  refine lv_iconst (v := 0) hx hb dX12_told_29 (by decide) ?_
  refine lv_iadd hx hb dX12_told_30 ?_
  refine lv_topi (fun x_7 ex_7 => ?_)
  obtain rfl : x_7 = 0 := ex_7.trans (by decide)
  refine lv_istore_n (lv' := [(2, .int 0), (3, .int 1), (0, .ref h0), (1, .int p0)]) hx hb dX12_told_31 rfl hl_6 (by decide) rfl (fun ls_8 hl_8 => ?_)
  clear hl_6
  refine lv_iinc (v := 2) (lv' := [(3, .int 2), (2, .int 0), (0, .ref h0), (1, .int p0)]) hx hb dX12_told_32 hl_8 (k := 1) rfl (by decide) (by decide) rfl (fun ls_9 hl_9 => ?_)
  clear hl_8
  refine lv_goto (tgt := 9) hx hb dX12_told_35 (by decide) ?_
  refine lv_iload_n hx hb dX12_told_9 rfl (lv_at hl_9 0 rfl) ?_
  refine lv_bipush (v := 6) hx hb dX12_told_10 (by decide) ?_
  refine lv_icmp_ge (tgt := 38) hx hb dX12_told_12 (by decide) (fun c_ => absurd c_ (by decide)) (fun _ => ?_)
  refine lv_iload_n hx hb dX12_told_15 rfl (lv_at hl_9 1 rfl) ?_
  refine lv_aload_n hx hb dX12_told_16 rfl (lv_at hl_9 2 rfl) ?_
  refine va_get (D := (dC, dI)) (ci := 15) (v := .ref h2) (C := RX12) (T := TX12) (N := 143) hx hb ht inX12 hown hK hP_1 0 rfl rfl 5 (by decide) (ht _ tw_2145) (fun _ h9 => h9) rfl dX12_told_17 ?_
  refine lv_iload_n hx hb dX12_told_20 rfl (lv_at hl_9 0 rfl) ?_
  refine va_zald hx hb hK hP_1 1 0 rfl rfl (i := 2) (vpi (by decide)) dX12_told_21 ?_
  refine W.eq (g2 := F0 m 22 ls_9 [.int 0, .int 0]) rfl ?_
  refine lv_if_eq (tgt := 29) hx hb dX12_told_22 (by decide) (fun _ => ?_) (fun c_ => absurd (by decide) c_)
  refine lv_iconst (v := 0) hx hb dX12_told_29 (by decide) ?_
  refine lv_iadd hx hb dX12_told_30 ?_
  refine lv_topi (fun x_10 ex_10 => ?_)
  obtain rfl : x_10 = 0 := ex_10.trans (by decide)
  refine lv_istore_n (lv' := [(2, .int 0), (3, .int 2), (0, .ref h0), (1, .int p0)]) hx hb dX12_told_31 rfl hl_9 (by decide) rfl (fun ls_11 hl_11 => ?_)
  clear hl_9
  refine lv_iinc (v := 3) (lv' := [(3, .int 3), (2, .int 0), (0, .ref h0), (1, .int p0)]) hx hb dX12_told_32 hl_11 (k := 1) rfl (by decide) (by decide) rfl (fun ls_12 hl_12 => ?_)
  clear hl_11
  refine lv_goto (tgt := 9) hx hb dX12_told_35 (by decide) ?_
  refine lv_iload_n hx hb dX12_told_9 rfl (lv_at hl_12 0 rfl) ?_
  refine lv_bipush (v := 6) hx hb dX12_told_10 (by decide) ?_
  refine lv_icmp_ge (tgt := 38) hx hb dX12_told_12 (by decide) (fun c_ => absurd c_ (by decide)) (fun _ => ?_)
  refine lv_iload_n hx hb dX12_told_15 rfl (lv_at hl_12 1 rfl) ?_
  refine lv_aload_n hx hb dX12_told_16 rfl (lv_at hl_12 2 rfl) ?_
  refine va_get (D := (dC, dI)) (ci := 15) (v := .ref h2) (C := RX12) (T := TX12) (N := 143) hx hb ht inX12 hown hK hP_1 0 rfl rfl 5 (by decide) (ht _ tw_2145) (fun _ h9 => h9) rfl dX12_told_17 ?_
  refine lv_iload_n hx hb dX12_told_20 rfl (lv_at hl_12 0 rfl) ?_
  refine va_zald hx hb hK hP_1 1 0 rfl rfl (i := 3) (vpi (by decide)) dX12_told_21 ?_
  refine W.eq (g2 := F0 m 22 ls_12 [.int 0, .int 0]) rfl ?_
  refine lv_if_eq (tgt := 29) hx hb dX12_told_22 (by decide) (fun _ => ?_) (fun c_ => absurd (by decide) c_)
  refine lv_iconst (v := 0) hx hb dX12_told_29 (by decide) ?_
  refine lv_iadd hx hb dX12_told_30 ?_
  refine lv_topi (fun x_13 ex_13 => ?_)
  obtain rfl : x_13 = 0 := ex_13.trans (by decide)
  refine lv_istore_n (lv' := [(2, .int 0), (3, .int 3), (0, .ref h0), (1, .int p0)]) hx hb dX12_told_31 rfl hl_12 (by decide) rfl (fun ls_14 hl_14 => ?_)
  clear hl_12
  refine lv_iinc (v := 4) (lv' := [(3, .int 4), (2, .int 0), (0, .ref h0), (1, .int p0)]) hx hb dX12_told_32 hl_14 (k := 1) rfl (by decide) (by decide) rfl (fun ls_15 hl_15 => ?_)
  clear hl_14
  refine lv_goto (tgt := 9) hx hb dX12_told_35 (by decide) ?_
  refine lv_iload_n hx hb dX12_told_9 rfl (lv_at hl_15 0 rfl) ?_
  refine lv_bipush (v := 6) hx hb dX12_told_10 (by decide) ?_
  refine lv_icmp_ge (tgt := 38) hx hb dX12_told_12 (by decide) (fun c_ => absurd c_ (by decide)) (fun _ => ?_)
  refine lv_iload_n hx hb dX12_told_15 rfl (lv_at hl_15 1 rfl) ?_
  refine lv_aload_n hx hb dX12_told_16 rfl (lv_at hl_15 2 rfl) ?_
  refine va_get (D := (dC, dI)) (ci := 15) (v := .ref h2) (C := RX12) (T := TX12) (N := 143) hx hb ht inX12 hown hK hP_1 0 rfl rfl 5 (by decide) (ht _ tw_2145) (fun _ h9 => h9) rfl dX12_told_17 ?_
  refine lv_iload_n hx hb dX12_told_20 rfl (lv_at hl_15 0 rfl) ?_
  refine va_zald hx hb hK hP_1 1 0 rfl rfl (i := 4) (vpi (by decide)) dX12_told_21 ?_
  refine W.eq (g2 := F0 m 22 ls_15 [.int 0, .int 0]) rfl ?_
  refine lv_if_eq (tgt := 29) hx hb dX12_told_22 (by decide) (fun _ => ?_) (fun c_ => absurd (by decide) c_)
  refine lv_iconst (v := 0) hx hb dX12_told_29 (by decide) ?_
  refine lv_iadd hx hb dX12_told_30 ?_
  refine lv_topi (fun x_16 ex_16 => ?_)
  obtain rfl : x_16 = 0 := ex_16.trans (by decide)
  refine lv_istore_n (lv' := [(2, .int 0), (3, .int 4), (0, .ref h0), (1, .int p0)]) hx hb dX12_told_31 rfl hl_15 (by decide) rfl (fun ls_17 hl_17 => ?_)
  clear hl_15
  refine lv_iinc (v := 5) (lv' := [(3, .int 5), (2, .int 0), (0, .ref h0), (1, .int p0)]) hx hb dX12_told_32 hl_17 (k := 1) rfl (by decide) (by decide) rfl (fun ls_18 hl_18 => ?_)
  clear hl_17
  refine lv_goto (tgt := 9) hx hb dX12_told_35 (by decide) ?_
  refine lv_iload_n hx hb dX12_told_9 rfl (lv_at hl_18 0 rfl) ?_
  refine lv_bipush (v := 6) hx hb dX12_told_10 (by decide) ?_
  refine lv_icmp_ge (tgt := 38) hx hb dX12_told_12 (by decide) (fun c_ => absurd c_ (by decide)) (fun _ => ?_)
  refine lv_iload_n hx hb dX12_told_15 rfl (lv_at hl_18 1 rfl) ?_
  refine lv_aload_n hx hb dX12_told_16 rfl (lv_at hl_18 2 rfl) ?_
  refine va_get (D := (dC, dI)) (ci := 15) (v := .ref h2) (C := RX12) (T := TX12) (N := 143) hx hb ht inX12 hown hK hP_1 0 rfl rfl 5 (by decide) (ht _ tw_2145) (fun _ h9 => h9) rfl dX12_told_17 ?_
  refine lv_iload_n hx hb dX12_told_20 rfl (lv_at hl_18 0 rfl) ?_
  refine va_zald hx hb hK hP_1 1 0 rfl rfl (i := 5) (vpi (by decide)) dX12_told_21 ?_
  refine W.eq (g2 := F0 m 22 ls_18 [.int 0, .int 0]) rfl ?_
  refine lv_if_eq (tgt := 29) hx hb dX12_told_22 (by decide) (fun _ => ?_) (fun c_ => absurd (by decide) c_)
  refine lv_iconst (v := 0) hx hb dX12_told_29 (by decide) ?_
  refine lv_iadd hx hb dX12_told_30 ?_
  refine lv_topi (fun x_19 ex_19 => ?_)
  obtain rfl : x_19 = 0 := ex_19.trans (by decide)
  refine lv_istore_n (lv' := [(2, .int 0), (3, .int 5), (0, .ref h0), (1, .int p0)]) hx hb dX12_told_31 rfl hl_18 (by decide) rfl (fun ls_20 hl_20 => ?_)
  clear hl_18
  refine lv_iinc (v := 6) (lv' := [(3, .int 6), (2, .int 0), (0, .ref h0), (1, .int p0)]) hx hb dX12_told_32 hl_20 (k := 1) rfl (by decide) (by decide) rfl (fun ls_21 hl_21 => ?_)
  clear hl_20
  refine lv_goto (tgt := 9) hx hb dX12_told_35 (by decide) ?_
  refine lv_iload_n hx hb dX12_told_9 rfl (lv_at hl_21 0 rfl) ?_
  refine lv_bipush (v := 6) hx hb dX12_told_10 (by decide) ?_
  refine lv_icmp_ge (tgt := 38) hx hb dX12_told_12 (by decide) (fun _ => ?_) (fun c_ => absurd (by decide) c_)
  refine lv_iconst (v := 0) hx hb dX12_told_38 (by decide) ?_
  refine lv_istore_n (lv' := [(3, .int 0), (2, .int 0), (0, .ref h0), (1, .int p0)]) hx hb dX12_told_39 rfl hl_21 (by decide) rfl (fun ls_22 hl_22 => ?_)
  clear hl_21
  refine lv_iconst (v := 0) hx hb dX12_told_40 (by decide) ?_
  refine lv_istore (lv' := [(4, .int 0), (3, .int 0), (2, .int 0), (0, .ref h0), (1, .int p0)]) hx hb dX12_told_41 hl_22 (by decide) rfl (fun ls_23 hl_23 => ?_)
  clear hl_22
  refine lv_iload hx hb dX12_told_43 (lv_at hl_23 0 rfl) ?_
  refine lv_iconst (v := 4) hx hb dX12_told_45 (by decide) ?_
  refine lv_icmp_ge (tgt := 73) hx hb dX12_told_46 (by decide) (fun c_ => absurd c_ (by decide)) (fun _ => ?_)
  refine lv_iload_n hx hb dX12_told_49 rfl (lv_at hl_23 1 rfl) ?_
  refine lv_aload_n hx hb dX12_told_50 rfl (lv_at hl_23 3 rfl) ?_
  refine va_get (D := (dC, dI)) (ci := 15) (v := .ref h48) (C := RX12) (T := TX12) (N := 143) hx hb ht inX12 hown hK hP_1 0 rfl rfl 68 (by decide) (ht _ tw_2208) (fun _ h9 => h9) rfl dX12_told_51 ?_
  refine lv_iload hx hb dX12_told_54 (lv_at hl_23 0 rfl) ?_
  refine va_zald hx hb hK hP_1 2 1 rfl rfl (i := 0) (vpi (by decide)) dX12_told_56 ?_
  refine W.eq (g2 := F0 m 57 ls_23 [.int 0, .int 0]) rfl ?_
  refine lv_if_eq (tgt := 64) hx hb dX12_told_57 (by decide) (fun _ => ?_) (fun c_ => absurd (by decide) c_)
  refine lv_iconst (v := 0) hx hb dX12_told_64 (by decide) ?_
  refine lv_iadd hx hb dX12_told_65 ?_
  refine lv_topi (fun x_24 ex_24 => ?_)
  obtain rfl : x_24 = 0 := ex_24.trans (by decide)
  refine lv_istore_n (lv' := [(3, .int 0), (4, .int 0), (2, .int 0), (0, .ref h0), (1, .int p0)]) hx hb dX12_told_66 rfl hl_23 (by decide) rfl (fun ls_25 hl_25 => ?_)
  clear hl_23
  refine lv_iinc (v := 1) (lv' := [(4, .int 1), (3, .int 0), (2, .int 0), (0, .ref h0), (1, .int p0)]) hx hb dX12_told_67 hl_25 (k := 1) rfl (by decide) (by decide) rfl (fun ls_26 hl_26 => ?_)
  clear hl_25
  refine lv_goto (tgt := 43) hx hb dX12_told_70 (by decide) ?_
  refine lv_iload hx hb dX12_told_43 (lv_at hl_26 0 rfl) ?_
  refine lv_iconst (v := 4) hx hb dX12_told_45 (by decide) ?_
  refine lv_icmp_ge (tgt := 73) hx hb dX12_told_46 (by decide) (fun c_ => absurd c_ (by decide)) (fun _ => ?_)
  refine lv_iload_n hx hb dX12_told_49 rfl (lv_at hl_26 1 rfl) ?_
  refine lv_aload_n hx hb dX12_told_50 rfl (lv_at hl_26 3 rfl) ?_
  refine va_get (D := (dC, dI)) (ci := 15) (v := .ref h48) (C := RX12) (T := TX12) (N := 143) hx hb ht inX12 hown hK hP_1 0 rfl rfl 68 (by decide) (ht _ tw_2208) (fun _ h9 => h9) rfl dX12_told_51 ?_
  refine lv_iload hx hb dX12_told_54 (lv_at hl_26 0 rfl) ?_
  refine va_zald hx hb hK hP_1 2 1 rfl rfl (i := 1) (vpi (by decide)) dX12_told_56 ?_
  refine W.eq (g2 := F0 m 57 ls_26 [.int 0, .int 0]) rfl ?_
  refine lv_if_eq (tgt := 64) hx hb dX12_told_57 (by decide) (fun _ => ?_) (fun c_ => absurd (by decide) c_)
  refine lv_iconst (v := 0) hx hb dX12_told_64 (by decide) ?_
  refine lv_iadd hx hb dX12_told_65 ?_
  refine lv_topi (fun x_27 ex_27 => ?_)
  obtain rfl : x_27 = 0 := ex_27.trans (by decide)
  refine lv_istore_n (lv' := [(3, .int 0), (4, .int 1), (2, .int 0), (0, .ref h0), (1, .int p0)]) hx hb dX12_told_66 rfl hl_26 (by decide) rfl (fun ls_28 hl_28 => ?_)
  clear hl_26
  refine lv_iinc (v := 2) (lv' := [(4, .int 2), (3, .int 0), (2, .int 0), (0, .ref h0), (1, .int p0)]) hx hb dX12_told_67 hl_28 (k := 1) rfl (by decide) (by decide) rfl (fun ls_29 hl_29 => ?_)
  clear hl_28
  refine lv_goto (tgt := 43) hx hb dX12_told_70 (by decide) ?_
  refine lv_iload hx hb dX12_told_43 (lv_at hl_29 0 rfl) ?_
  refine lv_iconst (v := 4) hx hb dX12_told_45 (by decide) ?_
  refine lv_icmp_ge (tgt := 73) hx hb dX12_told_46 (by decide) (fun c_ => absurd c_ (by decide)) (fun _ => ?_)
  refine lv_iload_n hx hb dX12_told_49 rfl (lv_at hl_29 1 rfl) ?_
  refine lv_aload_n hx hb dX12_told_50 rfl (lv_at hl_29 3 rfl) ?_
  refine va_get (D := (dC, dI)) (ci := 15) (v := .ref h48) (C := RX12) (T := TX12) (N := 143) hx hb ht inX12 hown hK hP_1 0 rfl rfl 68 (by decide) (ht _ tw_2208) (fun _ h9 => h9) rfl dX12_told_51 ?_
  refine lv_iload hx hb dX12_told_54 (lv_at hl_29 0 rfl) ?_
  refine va_zald hx hb hK hP_1 2 1 rfl rfl (i := 2) (vpi (by decide)) dX12_told_56 ?_
  refine W.eq (g2 := F0 m 57 ls_29 [.int 0, .int 0]) rfl ?_
  refine lv_if_eq (tgt := 64) hx hb dX12_told_57 (by decide) (fun _ => ?_) (fun c_ => absurd (by decide) c_)
  refine lv_iconst (v := 0) hx hb dX12_told_64 (by decide) ?_
  refine lv_iadd hx hb dX12_told_65 ?_
  refine lv_topi (fun x_30 ex_30 => ?_)
  obtain rfl : x_30 = 0 := ex_30.trans (by decide)
  refine lv_istore_n (lv' := [(3, .int 0), (4, .int 2), (2, .int 0), (0, .ref h0), (1, .int p0)]) hx hb dX12_told_66 rfl hl_29 (by decide) rfl (fun ls_31 hl_31 => ?_)
  clear hl_29
  refine lv_iinc (v := 3) (lv' := [(4, .int 3), (3, .int 0), (2, .int 0), (0, .ref h0), (1, .int p0)]) hx hb dX12_told_67 hl_31 (k := 1) rfl (by decide) (by decide) rfl (fun ls_32 hl_32 => ?_)
  clear hl_31
  refine lv_goto (tgt := 43) hx hb dX12_told_70 (by decide) ?_
  refine lv_iload hx hb dX12_told_43 (lv_at hl_32 0 rfl) ?_
  refine lv_iconst (v := 4) hx hb dX12_told_45 (by decide) ?_
  refine lv_icmp_ge (tgt := 73) hx hb dX12_told_46 (by decide) (fun c_ => absurd c_ (by decide)) (fun _ => ?_)
  refine lv_iload_n hx hb dX12_told_49 rfl (lv_at hl_32 1 rfl) ?_
  refine lv_aload_n hx hb dX12_told_50 rfl (lv_at hl_32 3 rfl) ?_
  refine va_get (D := (dC, dI)) (ci := 15) (v := .ref h48) (C := RX12) (T := TX12) (N := 143) hx hb ht inX12 hown hK hP_1 0 rfl rfl 68 (by decide) (ht _ tw_2208) (fun _ h9 => h9) rfl dX12_told_51 ?_
  refine lv_iload hx hb dX12_told_54 (lv_at hl_32 0 rfl) ?_
  refine va_zald hx hb hK hP_1 2 1 rfl rfl (i := 3) (vpi (by decide)) dX12_told_56 ?_
  refine W.eq (g2 := F0 m 57 ls_32 [.int 0, .int 0]) rfl ?_
  refine lv_if_eq (tgt := 64) hx hb dX12_told_57 (by decide) (fun _ => ?_) (fun c_ => absurd (by decide) c_)
  refine lv_iconst (v := 0) hx hb dX12_told_64 (by decide) ?_
  refine lv_iadd hx hb dX12_told_65 ?_
  refine lv_topi (fun x_33 ex_33 => ?_)
  obtain rfl : x_33 = 0 := ex_33.trans (by decide)
  refine lv_istore_n (lv' := [(3, .int 0), (4, .int 3), (2, .int 0), (0, .ref h0), (1, .int p0)]) hx hb dX12_told_66 rfl hl_32 (by decide) rfl (fun ls_34 hl_34 => ?_)
  clear hl_32
  refine lv_iinc (v := 4) (lv' := [(4, .int 4), (3, .int 0), (2, .int 0), (0, .ref h0), (1, .int p0)]) hx hb dX12_told_67 hl_34 (k := 1) rfl (by decide) (by decide) rfl (fun ls_35 hl_35 => ?_)
  clear hl_34
  refine lv_goto (tgt := 43) hx hb dX12_told_70 (by decide) ?_
  refine lv_iload hx hb dX12_told_43 (lv_at hl_35 0 rfl) ?_
  refine lv_iconst (v := 4) hx hb dX12_told_45 (by decide) ?_
  refine lv_icmp_ge (tgt := 73) hx hb dX12_told_46 (by decide) (fun _ => ?_) (fun c_ => absurd (by decide) c_)
  refine lv_iload_n hx hb dX12_told_73 rfl (lv_at hl_35 4 rfl) ?_
  by_cases hsw_74 : (p0.toInt < 0 ∨ 6 < p0.toInt)
  · refine lv_tableOut (tgt := 172) hx hb dX12_told_74 hsw_74 (by decide) ?_
    refine lv_bipush (v := (-4)) hx hb dX12_told_172 (by decide) ?_
    have hP9 := hP_1.sub (ws' := []) [] rfl
    have hD9 := hD_1.sub (ws' := []) [] (by decide) rfl
    have hK9 := hK.sub (tys' := []) [] rfl
    refine W.widen (k := 0) (n := 0) (by decide) (by decide) ?_
    exact W.iret (v := (-4)) hx hb hr (fun t9 ht9 hW9 => ⟨⟨(-4), 0, rfl, (Or.inl ⟨rfl, rfl, hsw_74⟩), ⟨by rw [ht9]; exact hP9, va_K.moved hW9.alike hK9, hD9⟩⟩, hS_1.F ht9⟩) hS_1.2.2 dX12_told_174
  · rcases st_7 hsw_74 with rfl | rfl | rfl | rfl | rfl | rfl | rfl
    · refine lv_tableIn (tgt := 116) (off := 42) hx hb dX12_told_74 (by decide) (by decide) (by decide) (by decide) ?_
      refine lv_aload_n hx hb dX12_told_116 rfl (lv_at hl_35 3 rfl) ?_
      refine va_get (D := (dC, dI)) (ci := 15) (v := .int 0) (C := RX12) (T := TX12) (N := 143) hx hb ht inX12 hown hK hP_1 0 rfl rfl 3 (by decide) (ht _ tw_2143) (fun _ h9 => h9) rfl dX12_told_117 ?_
      have hP9 := hP_1.sub (ws' := []) [] rfl
      have hD9 := hD_1.sub (ws' := []) [] (by decide) rfl
      have hK9 := hK.sub (tys' := []) [] rfl
      refine W.widen (k := 0) (n := 0) (by decide) (by decide) ?_
      exact W.iret (v := 0) hx hb hr (fun t9 ht9 hW9 => ⟨⟨0, 1, rfl, (Or.inr ⟨rfl, rfl, hsw_74⟩), ⟨by rw [ht9]; exact hP9, va_K.moved hW9.alike hK9, hD9⟩⟩, hS_1.F ht9⟩) hS_1.2.2 dX12_told_120
    · refine lv_tableIn (tgt := 121) (off := 47) hx hb dX12_told_74 (by decide) (by decide) (by decide) (by decide) ?_
      refine lv_iload_n hx hb dX12_told_121 rfl (lv_at hl_35 2 rfl) ?_
      have hP9 := hP_1.sub (ws' := []) [] rfl
      have hD9 := hD_1.sub (ws' := []) [] (by decide) rfl
      have hK9 := hK.sub (tys' := []) [] rfl
      refine W.widen (k := 0) (n := 0) (by decide) (by decide) ?_
      exact W.iret (v := 0) hx hb hr (fun t9 ht9 hW9 => ⟨⟨0, 1, rfl, (Or.inr ⟨rfl, rfl, hsw_74⟩), ⟨by rw [ht9]; exact hP9, va_K.moved hW9.alike hK9, hD9⟩⟩, hS_1.F ht9⟩) hS_1.2.2 dX12_told_122
    · refine lv_tableIn (tgt := 123) (off := 49) hx hb dX12_told_74 (by decide) (by decide) (by decide) (by decide) ?_
      refine lv_iload_n hx hb dX12_told_123 rfl (lv_at hl_35 1 rfl) ?_
      have hP9 := hP_1.sub (ws' := []) [] rfl
      have hD9 := hD_1.sub (ws' := []) [] (by decide) rfl
      have hK9 := hK.sub (tys' := []) [] rfl
      refine W.widen (k := 0) (n := 0) (by decide) (by decide) ?_
      exact W.iret (v := 0) hx hb hr (fun t9 ht9 hW9 => ⟨⟨0, 1, rfl, (Or.inr ⟨rfl, rfl, hsw_74⟩), ⟨by rw [ht9]; exact hP9, va_K.moved hW9.alike hK9, hD9⟩⟩, hS_1.F ht9⟩) hS_1.2.2 dX12_told_124
    · refine lv_tableIn (tgt := 125) (off := 51) hx hb dX12_told_74 (by decide) (by decide) (by decide) (by decide) ?_
      refine lv_aload_n hx hb dX12_told_125 rfl (lv_at hl_35 3 rfl) ?_
      refine va_get (D := (dC, dI)) (ci := 15) (v := .int 0) (C := RX12) (T := TX12) (N := 143) hx hb ht inX12 hown hK hP_1 0 rfl rfl 61 (by decide) (ht _ tw_2201) (fun _ h9 => h9) rfl dX12_told_126 ?_
      have hP9 := hP_1.sub (ws' := []) [] rfl
      have hD9 := hD_1.sub (ws' := []) [] (by decide) rfl
      have hK9 := hK.sub (tys' := []) [] rfl
      refine W.widen (k := 0) (n := 0) (by decide) (by decide) ?_
      exact W.iret (v := 0) hx hb hr (fun t9 ht9 hW9 => ⟨⟨0, 1, rfl, (Or.inr ⟨rfl, rfl, hsw_74⟩), ⟨by rw [ht9]; exact hP9, va_K.moved hW9.alike hK9, hD9⟩⟩, hS_1.F ht9⟩) hS_1.2.2 dX12_told_129
    · refine lv_tableIn (tgt := 130) (off := 56) hx hb dX12_told_74 (by decide) (by decide) (by decide) (by decide) ?_
      refine lv_aload_n hx hb dX12_told_130 rfl (lv_at hl_35 3 rfl) ?_
      refine va_get (D := (dC, dI)) (ci := 15) (v := .int 0) (C := RX12) (T := TX12) (N := 143) hx hb ht inX12 hown hK hP_1 0 rfl rfl 62 (by decide) (ht _ tw_2202) (fun _ h9 => h9) rfl dX12_told_131 ?_
      refine lv_if_eq (tgt := 141) hx hb dX12_told_134 (by decide) (fun _ => ?_) (fun c_ => absurd (by decide) c_)
      refine lv_iconst (v := 0) hx hb dX12_told_141 (by decide) ?_
      have hP9 := hP_1.sub (ws' := []) [] rfl
      have hD9 := hD_1.sub (ws' := []) [] (by decide) rfl
      have hK9 := hK.sub (tys' := []) [] rfl
      refine W.widen (k := 0) (n := 0) (by decide) (by decide) ?_
      exact W.iret (v := 0) hx hb hr (fun t9 ht9 hW9 => ⟨⟨0, 1, rfl, (Or.inr ⟨rfl, rfl, hsw_74⟩), ⟨by rw [ht9]; exact hP9, va_K.moved hW9.alike hK9, hD9⟩⟩, hS_1.F ht9⟩) hS_1.2.2 dX12_told_142
    · refine lv_tableIn (tgt := 143) (off := 69) hx hb dX12_told_74 (by decide) (by decide) (by decide) (by decide) ?_
      refine lv_aload_n hx hb dX12_told_143 rfl (lv_at hl_35 3 rfl) ?_
      refine va_get (D := (dC, dI)) (ci := 15) (v := .int 0) (C := RX12) (T := TX12) (N := 143) hx hb ht inX12 hown hK hP_1 0 rfl rfl 108 (by decide) (ht _ tw_2248) (fun _ h9 => h9) rfl dX12_told_144 ?_
      refine lv_if_eq (tgt := 157) hx hb dX12_told_147 (by decide) (fun _ => ?_) (fun c_ => absurd (by decide) c_)
      refine lv_iconst (v := 0) hx hb dX12_told_157 (by decide) ?_
      have hP9 := hP_1.sub (ws' := []) [] rfl
      have hD9 := hD_1.sub (ws' := []) [] (by decide) rfl
      have hK9 := hK.sub (tys' := []) [] rfl
      refine W.widen (k := 0) (n := 0) (by decide) (by decide) ?_
      exact W.iret (v := 0) hx hb hr (fun t9 ht9 hW9 => ⟨⟨0, 1, rfl, (Or.inr ⟨rfl, rfl, hsw_74⟩), ⟨by rw [ht9]; exact hP9, va_K.moved hW9.alike hK9, hD9⟩⟩, hS_1.F ht9⟩) hS_1.2.2 dX12_told_158
    · refine lv_tableIn (tgt := 159) (off := 85) hx hb dX12_told_74 (by decide) (by decide) (by decide) (by decide) ?_
      refine lv_aload_n hx hb dX12_told_159 rfl (lv_at hl_35 3 rfl) ?_
      refine va_get (D := (dC, dI)) (ci := 15) (v := .int 0) (C := RX12) (T := TX12) (N := 143) hx hb ht inX12 hown hK hP_1 0 rfl rfl 102 (by decide) (ht _ tw_2242) (fun _ h9 => h9) rfl dX12_told_160 ?_
      refine lv_if_eq (tgt := 170) hx hb dX12_told_163 (by decide) (fun _ => ?_) (fun c_ => absurd (by decide) c_)
      refine lv_iconst (v := 0) hx hb dX12_told_170 (by decide) ?_
      have hP9 := hP_1.sub (ws' := []) [] rfl
      have hD9 := hD_1.sub (ws' := []) [] (by decide) rfl
      have hK9 := hK.sub (tys' := []) [] rfl
      refine W.widen (k := 0) (n := 0) (by decide) (by decide) ?_
      exact W.iret (v := 0) hx hb hr (fun t9 ht9 hW9 => ⟨⟨0, 1, rfl, (Or.inr ⟨rfl, rfl, hsw_74⟩), ⟨by rw [ht9]; exact hP9, va_K.moved hW9.alike hK9, hD9⟩⟩, hS_1.F ht9⟩) hS_1.2.2 dX12_told_171
